/-! the calls step by step: those that touch what both hold alike, or are compared -/
theorem kqx {T : List Nat} {M M' : mM} {i : Nat} {v : Int32} (he : M' = up M (50, 0, 0) i v) (hi : i ∈ T) : kq T M M' := kq_up he (Or.inr hi)
theorem RXz_e {S1 S2 : rf → Nat → Prop} {T : List Nat} {E : rf → Nat → Prop} (s1 : ∀ (c : rf) (k : Nat), S1 c k → ¬ (c.1 = 12 ∨ 50 ≤ c.1)) (s2 : ∀ (c : rf) (k : Nat), S2 c k → c.1 = 12 ∨ 50 ≤ c.1)
    (a10 : ∀ b, b < 2 → ¬ E (10, b, 0) 7 → ¬ S1 (10, b, 0) 7) (a3 : ∀ b, b < 2 → ¬ E (3, b, 0) 3 → ¬ S1 (3, b, 0) 3) (a5 : ∀ b w, b < 2 → w < 2 → ¬ E (5, b, w) 1 → ¬ S1 (5, b, w) 1) (a2 : ∀ b k, b < 2 → k ≤ 2 → ¬ E (2, b, 0) k → ¬ S1 (2, b, 0) k) (a26 : ∀ b k, b < 2 → k < 5 → ¬ E (26, b, 0) k → ¬ S1 (26, b, 0) k) (a27 : ∀ b k, b < 2 → k < 5 → ¬ E (27, b, 0) k → ¬ S1 (27, b, 0) k) (a11 : ¬ E (11, 0, 0) 8 → ¬ S1 (11, 0, 0) 8) (a6 : ∀ w k, w < 4 → k < 2 → ¬ E (6, 0, w) k → ¬ S1 (6, 0, w) k)
    (b51 : ∀ (c : rf) (k j : Nat), PRz c k (51, 0, 0) j → ¬ E c k → ¬ S2 (51, 0, 0) j) (b12 : ¬ E (11, 0, 0) 8 → ¬ S2 (12, 0, 0) 3) (b66 : ∀ w, w < 4 → ¬ E (6, 0, w) 0 → ¬ S2 (66, 0, 0) w) (b67 : ∀ w, w < 4 → ¬ E (6, 0, w) 1 → ¬ S2 (67, 0, 0) w) (b50 : ∀ (c : rf) (k j : Nat), PRz c k (50, 0, 0) j → ¬ E c k → ¬ j ∈ T) :
    ∀ c k d j, PRz c k d j → ¬ E c k → ¬ S1 c k ∧ ¬ S1 d j ∧ ¬ S2 c k ∧ ((d.1 = 50 ∧ d.2.1 = 0 ∧ d.2.2 = 0 ∧ j ≤ 19 ∧ ¬ j ∈ T) ∨ ¬ S2 d j) := fun c k d j p e => by
  have p0 := p
  rcases c with ⟨c1, c2, c3⟩
  rcases d with ⟨d1, d2, d3⟩
  unfold PRz at p
  dsimp only at p ⊢
  have hc : ¬ (c1 = 12 ∨ 50 ≤ c1) ∧ (d1 = 12 ∨ 50 ≤ d1) := by omega
  refine ⟨?_, fun q => s1 _ _ q hc.2, fun q => hc.1 (s2 _ _ q), ?_⟩
  · rcases p with ⟨h0, rfl, rfl, rfl, p⟩ | ⟨rfl, rfl, rfl, rfl, rfl, rfl, rfl, rfl⟩ | ⟨rfl, rfl, h0, rfl, rfl, rfl, p⟩
    · rcases p with ⟨rfl, rfl, rfl, rfl⟩ | ⟨rfl, rfl, rfl, rfl⟩ | ⟨rfl, hk, rfl, rfl⟩ | ⟨rfl, rfl, hk, rfl⟩ | ⟨rfl, rfl, hk, rfl⟩ | ⟨rfl, rfl, hk, rfl⟩
      · exact a10 _ h0 e
      · exact a3 _ h0 e
      · exact a5 _ _ h0 hk e
      · exact a2 _ _ h0 hk e
      · exact a26 _ _ h0 hk e
      · exact a27 _ _ h0 hk e
    · exact a11 e
    · exact a6 _ _ h0 (by omega) e
  · rcases p with ⟨h0, rfl, rfl, rfl, p⟩ | ⟨rfl, rfl, rfl, rfl, rfl, rfl, rfl, rfl⟩ | ⟨rfl, rfl, h0, rfl, rfl, rfl, p⟩
    · rcases (show c2 = 0 ∨ c2 = 1 by omega) with rfl | rfl
      · exact Or.inl ⟨rfl, rfl, rfl, by omega, b50 _ _ _ p0 e⟩
      · exact Or.inr (b51 _ _ _ p0 e)
    · exact Or.inr (b12 e)
    · rcases p with ⟨rfl, rfl⟩ | ⟨rfl, rfl⟩
      · exact Or.inr (b66 _ h0 e)
      · exact Or.inr (b67 _ h0 e)
theorem st_4 {v u t : Int32} {M M1 M2 : mM} {r1 r2 : Int32} (h : RXz M.1) (hD : InvD M) (hF1 : FR (S_c_X11_kind) M M1) (hs1 : SP_X11_kind v u t M r1 M1) (hF2 : FR (S_c_X12_kind) M1 M2) (hs2 : SP_X12_kind v u t M1 r2 M2) : RXz M2.1 ∧ r1 = r2 := by
  have a := nnC_kind hs1
  have b := nnD_kind hs2
  have g1 : ∀ j, M1.1 (50, 0, 0) j = M.1 (50, 0, 0) j := fun j => hF1 _ _ (by simp [S_c_X11_kind])
  have g2 : ∀ r k, r = 26 ∨ r = 27 → M2.1 (r, 0, 0) k = M1.1 (r, 0, 0) k := fun r k hr => hF2 _ _ (by simp [S_c_X12_kind]; omega)
  have hv : KINB v u t → v.toInt.toNat < 5 := fun q => by unfold KINB at q; omega
  have x26 : ∀ k, k < 5 → M.1 (26, 0, 0) k = M.1 (50, 0, 0) (9 + k) := fun k hk => RXzg h (Pz0_26 hk) (by simp)
  have x27 : ∀ k, k < 5 → M.1 (27, 0, 0) k = M.1 (50, 0, 0) (14 + k) := fun k hk => RXzg h (Pz0_27 hk) (by simp)
  have fin : (∀ k, k < 5 → M2.1 (26, 0, 0) k = M2.1 (50, 0, 0) (9 + k) ∧ M2.1 (27, 0, 0) k = M2.1 (50, 0, 0) (14 + k)) → kq [9, 10, 11, 12, 13, 14, 15, 16, 17, 18] M1 M2 → RXz M2.1 := fun hk hq => by
    refine RXz_t (fun c _ => (c.1 = 26 ∨ c.1 = 27) ∧ c.2.1 = 0) h hF1 hF2 hq (Or.inl ((hF2 (12, 0, 0) 3 (by simp [S_c_X12_kind])).trans (hF1 (12, 0, 0) 3 (by simp [S_c_X11_kind])))) (fun c k d j p e g => ?_)
      (RXz_e (fun c k q => by simp only [S_c_X11_kind, or_false] at q; omega)
          (fun c k q => by simp only [S_c_X12_kind, or_false] at q; omega)
          (fun x0_ x1_ e q => by first | (simp [S_c_X11_kind] at q; done) | (exfalso; revert e; simp; done) | (simp [S_c_X11_kind] at q; omega) | (simp [S_c_X11_kind] at q; simp at e; omega))
          (fun x0_ x1_ e q => by first | (simp [S_c_X11_kind] at q; done) | (exfalso; revert e; simp; done) | (simp [S_c_X11_kind] at q; omega) | (simp [S_c_X11_kind] at q; simp at e; omega))
          (fun x0_ x1_ x2_ x3_ e q => by first | (simp [S_c_X11_kind] at q; done) | (exfalso; revert e; simp; done) | (simp [S_c_X11_kind] at q; omega) | (simp [S_c_X11_kind] at q; simp at e; omega))
          (fun x0_ x1_ x2_ x3_ e q => by first | (simp [S_c_X11_kind] at q; done) | (exfalso; revert e; simp; done) | (simp [S_c_X11_kind] at q; omega) | (simp [S_c_X11_kind] at q; simp at e; omega))
          (fun x0_ x1_ x2_ x3_ e q => by first | (simp [S_c_X11_kind] at q; done) | (exfalso; revert e; simp; done) | (simp [S_c_X11_kind] at q; omega) | (simp [S_c_X11_kind] at q; simp at e; omega))
          (fun x0_ x1_ x2_ x3_ e q => by first | (simp [S_c_X11_kind] at q; done) | (exfalso; revert e; simp; done) | (simp [S_c_X11_kind] at q; omega) | (simp [S_c_X11_kind] at q; simp at e; omega))
          (fun e q => by first | (simp [S_c_X11_kind] at q; done) | (exfalso; revert e; simp; done) | (simp [S_c_X11_kind] at q; omega) | (simp [S_c_X11_kind] at q; simp at e; omega))
          (fun x0_ x1_ x2_ x3_ e q => by first | (simp [S_c_X11_kind] at q; done) | (exfalso; revert e; simp; done) | (simp [S_c_X11_kind] at q; omega) | (simp [S_c_X11_kind] at q; simp at e; omega))
          (fun c k j p e q => by first | (simp [S_c_X12_kind] at q; done) | (unfold PRz at p; dsimp only at p e; omega))
          (fun e q => by first | (simp [S_c_X12_kind] at q; done) | (exfalso; revert e; simp; done) | (simp [S_c_X12_kind] at q; omega) | (simp [S_c_X12_kind] at q; simp at e; omega))
          (fun x0_ x1_ e q => by first | (simp [S_c_X12_kind] at q; done) | (exfalso; revert e; simp; done) | (simp [S_c_X12_kind] at q; omega) | (simp [S_c_X12_kind] at q; simp at e; omega))
          (fun x0_ x1_ e q => by first | (simp [S_c_X12_kind] at q; done) | (exfalso; revert e; simp; done) | (simp [S_c_X12_kind] at q; omega) | (simp [S_c_X12_kind] at q; simp at e; omega))
          (fun c k j p e q => by first | (simp at q; done) | (unfold PRz at p; dsimp only at p e; simp at q; omega)))
    replace e : (c.1 = 26 ∨ c.1 = 27) ∧ c.2.1 = 0 := e
    unfold PRz at p
    rw [rfe (d := d) (a := 50) (b := 0) (c := 0) (by omega)]
    rcases e.1 with e1 | e1
    · rw [rfe (d := c) (a := 26) (b := 0) (c := 0) (by omega), show j = 9 + k by omega]; exact (hk k (by omega)).1
    · rw [rfe (d := c) (a := 27) (b := 0) (c := 0) (by omega), show j = 14 + k by omega]; exact (hk k (by omega)).2
  rcases a with a | a <;> rcases b with b | b
  · refine ⟨fin (fun k hk => ⟨?_, ?_⟩) (fun j _ _ => b.2.2 j), i32e (by omega)⟩
    · rw [g2 _ _ (Or.inl rfl), (a.2.2 k).1, b.2.2, g1]; exact x26 k hk
    · rw [g2 _ _ (Or.inr rfl), (a.2.2 k).2, b.2.2, g1]; exact x27 k hk
  · exact absurd b.1 a.1
  · exact absurd a.1 b.1
  · have hn := hv a.1
    rcases a.2 with a | a <;> rcases b.2 with b | b
    · refine ⟨fin (fun k hk => ⟨?_, ?_⟩) (kqx b.2.2 (by simp only [List.mem_cons, List.not_mem_nil, or_false]; omega)), ?_⟩
      · rw [g2 _ _ (Or.inl rfl)]
        by_cases e : k = v.toInt.toNat
        · rw [zupE a.2.2 rfl e, zupE b.2.2 rfl (by omega)]
        · rw [zupN a.2.2 (fun q => e q.2), zupN b.2.2 (fun q => e (by have := q.2; omega)), g1]; exact x26 k hk
      · rw [g2 _ _ (Or.inr rfl), zupR a.2.2 (by simp), zupN b.2.2 (fun q => by have := q.2; omega), g1]; exact x27 k hk
      · rw [a.2.1, b.2.1, g1]; exact x26 _ hn
    · exact absurd a.1 b.1
    · exact absurd b.1 a.1
    · refine ⟨fin (fun k hk => ⟨?_, ?_⟩) (kqx b.2.2 (by simp only [List.mem_cons, List.not_mem_nil, or_false]; omega)), ?_⟩
      · rw [g2 _ _ (Or.inl rfl), zupR a.2.2 (by simp), zupN b.2.2 (fun q => by have := q.2; omega), g1]; exact x26 k hk
      · rw [g2 _ _ (Or.inr rfl)]
        by_cases e : k = v.toInt.toNat
        · rw [zupE a.2.2 rfl e, zupE b.2.2 rfl (by omega)]
        · rw [zupN a.2.2 (fun q => e q.2), zupN b.2.2 (fun q => e (by have := q.2; omega)), g1]; exact x27 k hk
      · rw [a.2.1, b.2.1, g1]; exact x27 _ hn
theorem st_7 {v u : Int32} {M M1 M2 : mM} {r1 r2 : Int32} (h : RXz M.1) (hD : InvD M) (hF1 : FR (S_c_X11_air) M M1) (hs1 : SP_X11_air v u M r1 M1) (hF2 : FR (S_c_X12_air) M1 M2) (hs2 : SP_X12_air v u M1 r2 M2) : RXz M2.1 ∧ r1 = r2 := by
  have a := nnC_air hs1
  have b := nnD_air hs2
  have g1 : ∀ j, M1.1 (50, 0, 0) j = M.1 (50, 0, 0) j := fun j => hF1 _ _ (by simp [S_c_X11_air])
  have g2 : ∀ k, M2.1 (2, 0, 0) k = M1.1 (2, 0, 0) k := fun k => hF2 _ _ (by simp [S_c_X12_air])
  have hv : AIRB v u → v.toInt.toNat ≤ 2 := fun q => by unfold AIRB at q; omega
  have x2 : ∀ k, k ≤ 2 → M.1 (2, 0, 0) k = M.1 (50, 0, 0) (6 + k) := fun k hk => RXzg h (Pz0_2 hk) (by simp)
  have fin : (∀ k, k ≤ 2 → M2.1 (2, 0, 0) k = M2.1 (50, 0, 0) (6 + k)) → kq [6, 7, 8] M1 M2 → RXz M2.1 := fun hk hq => by
    refine RXz_t (fun c _ => c.1 = 2 ∧ c.2.1 = 0) h hF1 hF2 hq (Or.inl ((hF2 (12, 0, 0) 3 (by simp [S_c_X12_air])).trans (hF1 (12, 0, 0) 3 (by simp [S_c_X11_air])))) (fun c k d j p e g => ?_)
      (RXz_e (fun c k q => by simp only [S_c_X11_air, or_false] at q; omega)
          (fun c k q => by simp only [S_c_X12_air, or_false] at q; omega)
          (fun x0_ x1_ e q => by first | (simp [S_c_X11_air] at q; done) | (exfalso; revert e; simp; done) | (simp [S_c_X11_air] at q; omega) | (simp [S_c_X11_air] at q; simp at e; omega))
          (fun x0_ x1_ e q => by first | (simp [S_c_X11_air] at q; done) | (exfalso; revert e; simp; done) | (simp [S_c_X11_air] at q; omega) | (simp [S_c_X11_air] at q; simp at e; omega))
          (fun x0_ x1_ x2_ x3_ e q => by first | (simp [S_c_X11_air] at q; done) | (exfalso; revert e; simp; done) | (simp [S_c_X11_air] at q; omega) | (simp [S_c_X11_air] at q; simp at e; omega))
          (fun x0_ x1_ x2_ x3_ e q => by first | (simp [S_c_X11_air] at q; done) | (exfalso; revert e; simp; done) | (simp [S_c_X11_air] at q; omega) | (simp [S_c_X11_air] at q; simp at e; omega))
          (fun x0_ x1_ x2_ x3_ e q => by first | (simp [S_c_X11_air] at q; done) | (exfalso; revert e; simp; done) | (simp [S_c_X11_air] at q; omega) | (simp [S_c_X11_air] at q; simp at e; omega))
          (fun x0_ x1_ x2_ x3_ e q => by first | (simp [S_c_X11_air] at q; done) | (exfalso; revert e; simp; done) | (simp [S_c_X11_air] at q; omega) | (simp [S_c_X11_air] at q; simp at e; omega))
          (fun e q => by first | (simp [S_c_X11_air] at q; done) | (exfalso; revert e; simp; done) | (simp [S_c_X11_air] at q; omega) | (simp [S_c_X11_air] at q; simp at e; omega))
          (fun x0_ x1_ x2_ x3_ e q => by first | (simp [S_c_X11_air] at q; done) | (exfalso; revert e; simp; done) | (simp [S_c_X11_air] at q; omega) | (simp [S_c_X11_air] at q; simp at e; omega))
          (fun c k j p e q => by first | (simp [S_c_X12_air] at q; done) | (unfold PRz at p; dsimp only at p e; omega))
          (fun e q => by first | (simp [S_c_X12_air] at q; done) | (exfalso; revert e; simp; done) | (simp [S_c_X12_air] at q; omega) | (simp [S_c_X12_air] at q; simp at e; omega))
          (fun x0_ x1_ e q => by first | (simp [S_c_X12_air] at q; done) | (exfalso; revert e; simp; done) | (simp [S_c_X12_air] at q; omega) | (simp [S_c_X12_air] at q; simp at e; omega))
          (fun x0_ x1_ e q => by first | (simp [S_c_X12_air] at q; done) | (exfalso; revert e; simp; done) | (simp [S_c_X12_air] at q; omega) | (simp [S_c_X12_air] at q; simp at e; omega))
          (fun c k j p e q => by first | (simp at q; done) | (unfold PRz at p; dsimp only at p e; simp at q; omega)))
    replace e : c.1 = 2 ∧ c.2.1 = 0 := e
    unfold PRz at p
    rw [rfe (d := d) (a := 50) (b := 0) (c := 0) (by omega), rfe (d := c) (a := 2) (b := 0) (c := 0) (by omega), show j = 6 + k by omega]; exact hk k (by omega)
  rcases a with a | a <;> rcases b with b | b
  · refine ⟨fin (fun k hk => ?_) (fun j _ _ => b.2.2 j), i32e (by omega)⟩
    rw [g2, a.2.2, b.2.2, g1]; exact x2 k hk
  · exact absurd b.1 a.1
  · exact absurd a.1 b.1
  · have hn := hv a.1
    refine ⟨fin (fun k hk => ?_) (kqx b.2.2 (by simp only [List.mem_cons, List.not_mem_nil, or_false]; omega)), ?_⟩
    · rw [g2]
      by_cases e : k = v.toInt.toNat
      · rw [zupE a.2.2 rfl e, zupE b.2.2 rfl (by omega)]
      · rw [zupN a.2.2 (fun q => e q.2), zupN b.2.2 (fun q => e (by have := q.2; omega)), g1]; exact x2 k hk
    · rw [a.2.1, b.2.1, g1]; exact x2 _ hn
theorem bnd5 {M : mM} (h : RXz M.1) (hD : InvD M) : (0 ≤ (M.1 (5, 0, 0) 1).toInt ∧ (M.1 (5, 0, 0) 1).toInt ≤ 48) ∧ (0 ≤ (M.1 (5, 0, 1) 1).toInt ∧ (M.1 (5, 0, 1) 1).toInt ≤ 24) ∧ (0 ≤ (M.1 (3, 0, 0) 3).toInt ∧ (M.1 (3, 0, 0) 3).toInt ≤ 7) := by
  have e1 := RXzi h (c := (5, 0, 0)) (k := 1) (d := (50, 0, 0)) (j := 4) (Pz0_5 (w := 0) (by decide))
  have e2 := RXzi h (c := (5, 0, 1)) (k := 1) (d := (50, 0, 0)) (j := 5) (Pz0_5 (w := 1) (by decide))
  have e3 := RXzi h (c := (3, 0, 0)) (k := 3) (d := (50, 0, 0)) (j := 3) Pz0_3
  have p4 := (hD.2.1.1 4).2.2.2.1 rfl
  have p5 := (hD.2.1.1 5).2.2.2.2.1 rfl
  have p3 := (hD.2.1.1 3).2.2.1 rfl
  omega
theorem bnd5k {M : mM} (h : RXz M.1) (hD : InvD M) (hne : ¬ (M.1 (12, 0, 0) 3).toInt = 0) : (M.1 (5, 1, 0) 1).toInt ≤ 48 ∧ (M.1 (5, 1, 1) 1).toInt ≤ 24 := by
  have e1 := eT (h (5, 1, 0) 1 (51, 0, 0) 4 (Pz1_5 (w := 0) (by decide)) (fun _ => hne))
  have e2 := eT (h (5, 1, 1) 1 (51, 0, 0) 5 (Pz1_5 (w := 1) (by decide)) (fun _ => hne))
  have p4 := (hD.2.2.1.1 4).2.2.2.1 rfl
  have p5 := (hD.2.2.1.1 5).2.2.2.2.1 rfl
  omega
theorem st_14 {v v' : Int64} {u : Int32} {M M1 M2 : mM} {r1 r2 : Int32} (h : RXz M.1) (hD : InvD M) (hF1 : FR (S_c_X11_feed) M M1) (hs1 : SP_X11_feed v u M r1 M1) (hF2 : FR (S_c_X12_feed) M1 M2) (hs2 : SP_X12_feed v' u M1 r2 M2) : RXz M2.1 ∧ r1 = r2 := by
  have bb := bnd5 h hD
  have a := nnC_feed hs1 bb.1
  have b := nnD_feed hs2
  rw [hF1 (50, 0, 0) 4 (by simp [S_c_X11_feed])] at b
  have e1 := RXzi h (c := (5, 0, 0)) (k := 1) (d := (50, 0, 0)) (j := 4) (Pz0_5 (w := 0) (by decide))
  unfold FEDN at a b
  refine ⟨RXz_t (fun c _ => c.1 = 5 ∧ c.2.1 = 0 ∧ c.2.2 = 0) h hF1 hF2 (KSP_X12_feed hs2) (Or.inl ((hF2 (12, 0, 0) 3 (by simp [S_c_X12_feed])).trans (hF1 (12, 0, 0) 3 (by simp [S_c_X11_feed])))) (fun c k d j p e g => ?_)
      (RXz_e (fun c k q => by simp only [S_c_X11_feed, or_false] at q; omega)
          (fun c k q => by simp only [S_c_X12_feed, or_false] at q; omega)
          (fun x0_ x1_ e q => by first | (simp [S_c_X11_feed] at q; done) | (exfalso; revert e; simp; done) | (simp [S_c_X11_feed] at q; omega) | (simp [S_c_X11_feed] at q; simp at e; omega))
          (fun x0_ x1_ e q => by first | (simp [S_c_X11_feed] at q; done) | (exfalso; revert e; simp; done) | (simp [S_c_X11_feed] at q; omega) | (simp [S_c_X11_feed] at q; simp at e; omega))
          (fun x0_ x1_ x2_ x3_ e q => by first | (simp [S_c_X11_feed] at q; done) | (exfalso; revert e; simp; done) | (simp [S_c_X11_feed] at q; omega) | (simp [S_c_X11_feed] at q; simp at e; omega))
          (fun x0_ x1_ x2_ x3_ e q => by first | (simp [S_c_X11_feed] at q; done) | (exfalso; revert e; simp; done) | (simp [S_c_X11_feed] at q; omega) | (simp [S_c_X11_feed] at q; simp at e; omega))
          (fun x0_ x1_ x2_ x3_ e q => by first | (simp [S_c_X11_feed] at q; done) | (exfalso; revert e; simp; done) | (simp [S_c_X11_feed] at q; omega) | (simp [S_c_X11_feed] at q; simp at e; omega))
          (fun x0_ x1_ x2_ x3_ e q => by first | (simp [S_c_X11_feed] at q; done) | (exfalso; revert e; simp; done) | (simp [S_c_X11_feed] at q; omega) | (simp [S_c_X11_feed] at q; simp at e; omega))
          (fun e q => by first | (simp [S_c_X11_feed] at q; done) | (exfalso; revert e; simp; done) | (simp [S_c_X11_feed] at q; omega) | (simp [S_c_X11_feed] at q; simp at e; omega))
          (fun x0_ x1_ x2_ x3_ e q => by first | (simp [S_c_X11_feed] at q; done) | (exfalso; revert e; simp; done) | (simp [S_c_X11_feed] at q; omega) | (simp [S_c_X11_feed] at q; simp at e; omega))
          (fun c k j p e q => by first | (simp [S_c_X12_feed] at q; done) | (unfold PRz at p; dsimp only at p e; omega))
          (fun e q => by first | (simp [S_c_X12_feed] at q; done) | (exfalso; revert e; simp; done) | (simp [S_c_X12_feed] at q; omega) | (simp [S_c_X12_feed] at q; simp at e; omega))
          (fun x0_ x1_ e q => by first | (simp [S_c_X12_feed] at q; done) | (exfalso; revert e; simp; done) | (simp [S_c_X12_feed] at q; omega) | (simp [S_c_X12_feed] at q; simp at e; omega))
          (fun x0_ x1_ e q => by first | (simp [S_c_X12_feed] at q; done) | (exfalso; revert e; simp; done) | (simp [S_c_X12_feed] at q; omega) | (simp [S_c_X12_feed] at q; simp at e; omega))
          (fun c k j p e q => by first | (simp at q; done) | (unfold PRz at p; dsimp only at p e; simp at q; omega)))
    , i32e (by omega)⟩
  replace e : c.1 = 5 ∧ c.2.1 = 0 ∧ c.2.2 = 0 := e
  unfold PRz at p
  rw [rfe (d := d) (a := 50) (b := 0) (c := 0) (by omega), rfe (d := c) (a := 5) (b := 0) (c := 0) (by omega), show j = 4 by omega, show k = 1 by omega, hF2 (5, 0, 0) 1 (by simp [S_c_X12_feed])]
  exact i32e (by omega)
theorem st_15 {v : Int32} {M M1 M2 : mM} {r1 r2 : Int32} (h : RXz M.1) (hD : InvD M) (hF1 : FR (S_c_X11_text) M M1) (hs1 : SP_X11_text v M r1 M1) (hF2 : FR (S_c_X12_text_) M1 M2) (hs2 : SP_X12_text_ v M1 r2 M2) : RXz M2.1 ∧ True := by
  have a := nnC_text hs1
  have b := nnD_text hs2
  rw [hF1 (50, 0, 0) 4 (by simp [S_c_X11_text])] at b
  have e1 := RXzi h (c := (5, 0, 0)) (k := 1) (d := (50, 0, 0)) (j := 4) (Pz0_5 (w := 0) (by decide))
  unfold TEXN at a b
  refine ⟨RXz_t (fun c _ => c.1 = 5 ∧ c.2.1 = 0 ∧ c.2.2 = 0) h hF1 hF2 (KSP_X12_text_ hs2) (Or.inl ((hF2 (12, 0, 0) 3 (by simp [S_c_X12_text_])).trans (hF1 (12, 0, 0) 3 (by simp [S_c_X11_text])))) (fun c k d j p e g => ?_)
      (RXz_e (fun c k q => by simp only [S_c_X11_text, or_false] at q; omega)
          (fun c k q => by simp only [S_c_X12_text_, or_false] at q; omega)
          (fun x0_ x1_ e q => by first | (simp [S_c_X11_text] at q; done) | (exfalso; revert e; simp; done) | (simp [S_c_X11_text] at q; omega) | (simp [S_c_X11_text] at q; simp at e; omega))
          (fun x0_ x1_ e q => by first | (simp [S_c_X11_text] at q; done) | (exfalso; revert e; simp; done) | (simp [S_c_X11_text] at q; omega) | (simp [S_c_X11_text] at q; simp at e; omega))
          (fun x0_ x1_ x2_ x3_ e q => by first | (simp [S_c_X11_text] at q; done) | (exfalso; revert e; simp; done) | (simp [S_c_X11_text] at q; omega) | (simp [S_c_X11_text] at q; simp at e; omega))
          (fun x0_ x1_ x2_ x3_ e q => by first | (simp [S_c_X11_text] at q; done) | (exfalso; revert e; simp; done) | (simp [S_c_X11_text] at q; omega) | (simp [S_c_X11_text] at q; simp at e; omega))
          (fun x0_ x1_ x2_ x3_ e q => by first | (simp [S_c_X11_text] at q; done) | (exfalso; revert e; simp; done) | (simp [S_c_X11_text] at q; omega) | (simp [S_c_X11_text] at q; simp at e; omega))
          (fun x0_ x1_ x2_ x3_ e q => by first | (simp [S_c_X11_text] at q; done) | (exfalso; revert e; simp; done) | (simp [S_c_X11_text] at q; omega) | (simp [S_c_X11_text] at q; simp at e; omega))
          (fun e q => by first | (simp [S_c_X11_text] at q; done) | (exfalso; revert e; simp; done) | (simp [S_c_X11_text] at q; omega) | (simp [S_c_X11_text] at q; simp at e; omega))
          (fun x0_ x1_ x2_ x3_ e q => by first | (simp [S_c_X11_text] at q; done) | (exfalso; revert e; simp; done) | (simp [S_c_X11_text] at q; omega) | (simp [S_c_X11_text] at q; simp at e; omega))
          (fun c k j p e q => by first | (simp [S_c_X12_text_] at q; done) | (unfold PRz at p; dsimp only at p e; omega))
          (fun e q => by first | (simp [S_c_X12_text_] at q; done) | (exfalso; revert e; simp; done) | (simp [S_c_X12_text_] at q; omega) | (simp [S_c_X12_text_] at q; simp at e; omega))
          (fun x0_ x1_ e q => by first | (simp [S_c_X12_text_] at q; done) | (exfalso; revert e; simp; done) | (simp [S_c_X12_text_] at q; omega) | (simp [S_c_X12_text_] at q; simp at e; omega))
          (fun x0_ x1_ e q => by first | (simp [S_c_X12_text_] at q; done) | (exfalso; revert e; simp; done) | (simp [S_c_X12_text_] at q; omega) | (simp [S_c_X12_text_] at q; simp at e; omega))
          (fun c k j p e q => by first | (simp at q; done) | (unfold PRz at p; dsimp only at p e; simp at q; omega)))
    , trivial⟩
  replace e : c.1 = 5 ∧ c.2.1 = 0 ∧ c.2.2 = 0 := e
  unfold PRz at p
  rw [rfe (d := d) (a := 50) (b := 0) (c := 0) (by omega), rfe (d := c) (a := 5) (b := 0) (c := 0) (by omega), show j = 4 by omega, show k = 1 by omega, hF2 (5, 0, 0) 1 (by simp [S_c_X12_text_])]
  exact i32e (by omega)
theorem st_24 {v : Int32} {M M1 M2 : mM} {r1 r2 : Int32} (h : RXz M.1) (hD : InvD M) (hF1 : FR (S_c_X11_tenths) M M1) (hs1 : SP_X11_tenths v M r1 M1) (hF2 : FR (S_c_X12_tenths) M1 M2) (hs2 : SP_X12_tenths v M1 r2 M2) : RXz M2.1 ∧ r1 = r2 := by
  have a := nnC_tenths hs1
  have b := nnD_tenths hs2
  rw [hF1 (50, 0, 0) 0 (by simp [S_c_X11_tenths]), ← RXzg (c := (10, 0, 0)) (k := 7) (d := (50, 0, 0)) (j := 0) h Pz0_10 (by simp)] at b
  have both : r1 = r2 ∧ M1.1 (10, 0, 0) 7 = M2.1 (50, 0, 0) 0 := by
    unfold TENN at a b
    rcases a with a | ⟨a0, a | a⟩ <;> rcases b with b | ⟨b0, b | b⟩ <;> first | exact absurd b0 a.1 | exact absurd a0 b.1 | (exfalso; omega) | exact ⟨i32e (by omega), a.2.2.trans b.2.2.symm⟩ | exact ⟨a.2.1.trans b.2.1.symm, a.2.2.trans b.2.2.symm⟩
  refine ⟨RXz_t (fun c _ => c.1 = 10 ∧ c.2.1 = 0) h hF1 hF2 (KSP_X12_tenths hs2) (Or.inl ((hF2 (12, 0, 0) 3 (by simp [S_c_X12_tenths])).trans (hF1 (12, 0, 0) 3 (by simp [S_c_X11_tenths])))) (fun c k d j p e g => ?_)
      (RXz_e (fun c k q => by simp only [S_c_X11_tenths, or_false] at q; omega)
          (fun c k q => by simp only [S_c_X12_tenths, or_false] at q; omega)
          (fun x0_ x1_ e q => by first | (simp [S_c_X11_tenths] at q; done) | (exfalso; revert e; simp; done) | (simp [S_c_X11_tenths] at q; omega) | (simp [S_c_X11_tenths] at q; simp at e; omega))
          (fun x0_ x1_ e q => by first | (simp [S_c_X11_tenths] at q; done) | (exfalso; revert e; simp; done) | (simp [S_c_X11_tenths] at q; omega) | (simp [S_c_X11_tenths] at q; simp at e; omega))
          (fun x0_ x1_ x2_ x3_ e q => by first | (simp [S_c_X11_tenths] at q; done) | (exfalso; revert e; simp; done) | (simp [S_c_X11_tenths] at q; omega) | (simp [S_c_X11_tenths] at q; simp at e; omega))
          (fun x0_ x1_ x2_ x3_ e q => by first | (simp [S_c_X11_tenths] at q; done) | (exfalso; revert e; simp; done) | (simp [S_c_X11_tenths] at q; omega) | (simp [S_c_X11_tenths] at q; simp at e; omega))
          (fun x0_ x1_ x2_ x3_ e q => by first | (simp [S_c_X11_tenths] at q; done) | (exfalso; revert e; simp; done) | (simp [S_c_X11_tenths] at q; omega) | (simp [S_c_X11_tenths] at q; simp at e; omega))
          (fun x0_ x1_ x2_ x3_ e q => by first | (simp [S_c_X11_tenths] at q; done) | (exfalso; revert e; simp; done) | (simp [S_c_X11_tenths] at q; omega) | (simp [S_c_X11_tenths] at q; simp at e; omega))
          (fun e q => by first | (simp [S_c_X11_tenths] at q; done) | (exfalso; revert e; simp; done) | (simp [S_c_X11_tenths] at q; omega) | (simp [S_c_X11_tenths] at q; simp at e; omega))
          (fun x0_ x1_ x2_ x3_ e q => by first | (simp [S_c_X11_tenths] at q; done) | (exfalso; revert e; simp; done) | (simp [S_c_X11_tenths] at q; omega) | (simp [S_c_X11_tenths] at q; simp at e; omega))
          (fun c k j p e q => by first | (simp [S_c_X12_tenths] at q; done) | (unfold PRz at p; dsimp only at p e; omega))
          (fun e q => by first | (simp [S_c_X12_tenths] at q; done) | (exfalso; revert e; simp; done) | (simp [S_c_X12_tenths] at q; omega) | (simp [S_c_X12_tenths] at q; simp at e; omega))
          (fun x0_ x1_ e q => by first | (simp [S_c_X12_tenths] at q; done) | (exfalso; revert e; simp; done) | (simp [S_c_X12_tenths] at q; omega) | (simp [S_c_X12_tenths] at q; simp at e; omega))
          (fun x0_ x1_ e q => by first | (simp [S_c_X12_tenths] at q; done) | (exfalso; revert e; simp; done) | (simp [S_c_X12_tenths] at q; omega) | (simp [S_c_X12_tenths] at q; simp at e; omega))
          (fun c k j p e q => by first | (simp at q; done) | (unfold PRz at p; dsimp only at p e; simp at q; omega)))
    , both.1⟩
  replace e : c.1 = 10 ∧ c.2.1 = 0 := e
  unfold PRz at p
  rw [rfe (d := d) (a := 50) (b := 0) (c := 0) (by omega), rfe (d := c) (a := 10) (b := 0) (c := 0) (by omega), show j = 0 by omega, show k = 7 by omega, hF2 (10, 0, 0) 7 (by simp [S_c_X12_tenths])]
  exact both.2
theorem st_27 {v u t : Int32} {M M1 M2 : mM} {r1 r2 : Int32} (h : RXz M.1) (hD : InvD M) (hF1 : FR (S_c_X11_lesson) M M1) (hs1 : SP_X11_lesson v u t M r1 M1) (hF2 : FR (S_c_X12_lesson) M1 M2) (hs2 : SP_X12_lesson v u t M1 r2 M2) : RXz M2.1 ∧ r1 = r2 := by
  have bb := bnd5 h hD
  have a := nnC_lesson hs1 bb.2.2
  have b := nnD_lesson hs2
  rw [hF1 (50, 0, 0) 3 (by simp [S_c_X11_lesson])] at b
  have e1 := RXzi h (c := (3, 0, 0)) (k := 3) (d := (50, 0, 0)) (j := 3) Pz0_3
  unfold LESN at a b
  refine ⟨RXz_t (fun c _ => c.1 = 3 ∧ c.2.1 = 0) h hF1 hF2 (KSP_X12_lesson hs2) (Or.inl ((hF2 (12, 0, 0) 3 (by simp [S_c_X12_lesson])).trans (hF1 (12, 0, 0) 3 (by simp [S_c_X11_lesson])))) (fun c k d j p e g => ?_)
      (RXz_e (fun c k q => by simp only [S_c_X11_lesson, or_false] at q; omega)
          (fun c k q => by simp only [S_c_X12_lesson, or_false] at q; omega)
          (fun x0_ x1_ e q => by first | (simp [S_c_X11_lesson] at q; done) | (exfalso; revert e; simp; done) | (simp [S_c_X11_lesson] at q; omega) | (simp [S_c_X11_lesson] at q; simp at e; omega))
          (fun x0_ x1_ e q => by first | (simp [S_c_X11_lesson] at q; done) | (exfalso; revert e; simp; done) | (simp [S_c_X11_lesson] at q; omega) | (simp [S_c_X11_lesson] at q; simp at e; omega))
          (fun x0_ x1_ x2_ x3_ e q => by first | (simp [S_c_X11_lesson] at q; done) | (exfalso; revert e; simp; done) | (simp [S_c_X11_lesson] at q; omega) | (simp [S_c_X11_lesson] at q; simp at e; omega))
          (fun x0_ x1_ x2_ x3_ e q => by first | (simp [S_c_X11_lesson] at q; done) | (exfalso; revert e; simp; done) | (simp [S_c_X11_lesson] at q; omega) | (simp [S_c_X11_lesson] at q; simp at e; omega))
          (fun x0_ x1_ x2_ x3_ e q => by first | (simp [S_c_X11_lesson] at q; done) | (exfalso; revert e; simp; done) | (simp [S_c_X11_lesson] at q; omega) | (simp [S_c_X11_lesson] at q; simp at e; omega))
          (fun x0_ x1_ x2_ x3_ e q => by first | (simp [S_c_X11_lesson] at q; done) | (exfalso; revert e; simp; done) | (simp [S_c_X11_lesson] at q; omega) | (simp [S_c_X11_lesson] at q; simp at e; omega))
          (fun e q => by first | (simp [S_c_X11_lesson] at q; done) | (exfalso; revert e; simp; done) | (simp [S_c_X11_lesson] at q; omega) | (simp [S_c_X11_lesson] at q; simp at e; omega))
          (fun x0_ x1_ x2_ x3_ e q => by first | (simp [S_c_X11_lesson] at q; done) | (exfalso; revert e; simp; done) | (simp [S_c_X11_lesson] at q; omega) | (simp [S_c_X11_lesson] at q; simp at e; omega))
          (fun c k j p e q => by first | (simp [S_c_X12_lesson] at q; done) | (unfold PRz at p; dsimp only at p e; omega))
          (fun e q => by first | (simp [S_c_X12_lesson] at q; done) | (exfalso; revert e; simp; done) | (simp [S_c_X12_lesson] at q; omega) | (simp [S_c_X12_lesson] at q; simp at e; omega))
          (fun x0_ x1_ e q => by first | (simp [S_c_X12_lesson] at q; done) | (exfalso; revert e; simp; done) | (simp [S_c_X12_lesson] at q; omega) | (simp [S_c_X12_lesson] at q; simp at e; omega))
          (fun x0_ x1_ e q => by first | (simp [S_c_X12_lesson] at q; done) | (exfalso; revert e; simp; done) | (simp [S_c_X12_lesson] at q; omega) | (simp [S_c_X12_lesson] at q; simp at e; omega))
          (fun c k j p e q => by first | (simp at q; done) | (unfold PRz at p; dsimp only at p e; simp at q; omega)))
    , i32e (by omega)⟩
  replace e : c.1 = 3 ∧ c.2.1 = 0 := e
  unfold PRz at p
  rw [rfe (d := d) (a := 50) (b := 0) (c := 0) (by omega), rfe (d := c) (a := 3) (b := 0) (c := 0) (by omega), show j = 3 by omega, show k = 3 by omega, hF2 (3, 0, 0) 3 (by simp [S_c_X12_lesson])]
  exact i32e (by omega)
theorem st_32 {v u t : Int32} {M M1 M2 : mM} {r1 r2 : Int32} (h : RXz M.1) (hD : InvD M) (hF1 : FR (S_c_X11_sheet) M M1) (hs1 : SP_X11_sheet v u t M r1 M1) (hF2 : FR (S_c_X12_sheet) M1 M2) (hs2 : SP_X12_sheet v u t M1 r2 M2) : RXz M2.1 ∧ True := by
  have a := nnC_sheet hs1
  have b := nnD_sheet hs2
  have g1 : ∀ w, M1.1 (66, 0, 0) w = M.1 (66, 0, 0) w ∧ M1.1 (67, 0, 0) w = M.1 (67, 0, 0) w := fun w => ⟨hF1 _ _ (by simp [S_c_X11_sheet]), hF1 _ _ (by simp [S_c_X11_sheet])⟩
  have g2 : ∀ w k, M2.1 (6, 0, w) k = M1.1 (6, 0, w) k := fun w k => hF2 _ _ (by simp [S_c_X12_sheet])
  have x6 : ∀ w, w < 4 → M.1 (6, 0, w) 0 = M.1 (66, 0, 0) w ∧ M.1 (6, 0, w) 1 = M.1 (67, 0, 0) w := fun w hw => ⟨RXzg h (Pz_6a hw) (by simp), RXzg h (Pz_6b hw) (by simp)⟩
  have key : ∀ w, w < 4 → M2.1 (6, 0, w) 0 = M2.1 (66, 0, 0) w ∧ M2.1 (6, 0, w) 1 = M2.1 (67, 0, 0) w := fun w hw => by
    rw [g2, g2]
    rcases a with a | a <;> rcases b with b | b
    · rw [a.2, a.2, (b.2 w).1, (b.2 w).2, (g1 w).1, (g1 w).2]; exact x6 w hw
    · exact absurd b.1 a.1
    · exact absurd a.1 b.1
    · by_cases e : w = v.toInt.toNat
      · rw [e, a.2.1, a.2.2.1, b.2.1, b.2.2.1]; exact ⟨rfl, rfl⟩
      · rw [a.2.2.2 w 0 e, a.2.2.2 w 1 e, (b.2.2.2 w e).1, (b.2.2.2 w e).2, (g1 w).1, (g1 w).2]; exact x6 w hw
  refine ⟨RXz_t (T := []) (fun c _ => c.1 = 6) h hF1 hF2 (kq_FR hF2 (by intro j q; simp [S_c_X12_sheet] at q)) (Or.inl ((hF2 (12, 0, 0) 3 (by simp [S_c_X12_sheet])).trans (hF1 (12, 0, 0) 3 (by simp [S_c_X11_sheet])))) (fun c k d j p e g => ?_)
      (RXz_e (fun c k q => by simp only [S_c_X11_sheet, or_false] at q; omega)
          (fun c k q => by simp only [S_c_X12_sheet, or_false] at q; omega)
          (fun x0_ x1_ e q => by first | (simp [S_c_X11_sheet] at q; done) | (exfalso; revert e; simp; done) | (simp [S_c_X11_sheet] at q; omega) | (simp [S_c_X11_sheet] at q; simp at e; omega))
          (fun x0_ x1_ e q => by first | (simp [S_c_X11_sheet] at q; done) | (exfalso; revert e; simp; done) | (simp [S_c_X11_sheet] at q; omega) | (simp [S_c_X11_sheet] at q; simp at e; omega))
          (fun x0_ x1_ x2_ x3_ e q => by first | (simp [S_c_X11_sheet] at q; done) | (exfalso; revert e; simp; done) | (simp [S_c_X11_sheet] at q; omega) | (simp [S_c_X11_sheet] at q; simp at e; omega))
          (fun x0_ x1_ x2_ x3_ e q => by first | (simp [S_c_X11_sheet] at q; done) | (exfalso; revert e; simp; done) | (simp [S_c_X11_sheet] at q; omega) | (simp [S_c_X11_sheet] at q; simp at e; omega))
          (fun x0_ x1_ x2_ x3_ e q => by first | (simp [S_c_X11_sheet] at q; done) | (exfalso; revert e; simp; done) | (simp [S_c_X11_sheet] at q; omega) | (simp [S_c_X11_sheet] at q; simp at e; omega))
          (fun x0_ x1_ x2_ x3_ e q => by first | (simp [S_c_X11_sheet] at q; done) | (exfalso; revert e; simp; done) | (simp [S_c_X11_sheet] at q; omega) | (simp [S_c_X11_sheet] at q; simp at e; omega))
          (fun e q => by first | (simp [S_c_X11_sheet] at q; done) | (exfalso; revert e; simp; done) | (simp [S_c_X11_sheet] at q; omega) | (simp [S_c_X11_sheet] at q; simp at e; omega))
          (fun x0_ x1_ x2_ x3_ e q => by first | (simp [S_c_X11_sheet] at q; done) | (exfalso; revert e; simp; done) | (simp [S_c_X11_sheet] at q; omega) | (simp [S_c_X11_sheet] at q; simp at e; omega))
          (fun c k j p e q => by first | (simp [S_c_X12_sheet] at q; done) | (unfold PRz at p; dsimp only at p e; omega))
          (fun e q => by first | (simp [S_c_X12_sheet] at q; done) | (exfalso; revert e; simp; done) | (simp [S_c_X12_sheet] at q; omega) | (simp [S_c_X12_sheet] at q; simp at e; omega))
          (fun x0_ x1_ e q => by first | (simp [S_c_X12_sheet] at q; done) | (exfalso; revert e; simp; done) | (simp [S_c_X12_sheet] at q; omega) | (simp [S_c_X12_sheet] at q; simp at e; omega))
          (fun x0_ x1_ e q => by first | (simp [S_c_X12_sheet] at q; done) | (exfalso; revert e; simp; done) | (simp [S_c_X12_sheet] at q; omega) | (simp [S_c_X12_sheet] at q; simp at e; omega))
          (fun c k j p e q => by first | (simp at q; done) | (unfold PRz at p; dsimp only at p e; simp at q; omega)))
    , trivial⟩
  replace e : c.1 = 6 := e
  unfold PRz at p
  rw [rfe (d := c) (a := 6) (b := 0) (c := c.2.2) (by omega)]
  by_cases hk : k = 0
  · rw [rfe (d := d) (a := 66) (b := 0) (c := 0) (by omega), hk, show j = c.2.2 by omega]; exact (key _ (by omega)).1
  · rw [rfe (d := d) (a := 67) (b := 0) (c := 0) (by omega), show k = 1 by omega, show j = c.2.2 by omega]; exact (key _ (by omega)).2
theorem st_33 {v u t : Int32} {M M1 M2 : mM} {r1 r2 : Int32} (h : RXz M.1) (hD : InvD M) (hF1 : FR (S_c_X11_put) M M1) (hs1 : SP_X11_put v u t M r1 M1) (hF2 : FR (S_c_X12_put) M1 M2) (hs2 : SP_X12_put v u t M1 r2 M2) : RXz M2.1 ∧ r1 = r2 := by
  refine ⟨RXz_t (T := []) (fun _ _ => False) h hF1 hF2 (kq_FR hF2 (by intro j q; simp [S_c_X12_put] at q)) (Or.inl ((hF2 (12, 0, 0) 3 (by simp [S_c_X12_put])).trans (hF1 (12, 0, 0) 3 (by simp [S_c_X11_put])))) (fun _ _ _ _ _ e _ => e.elim)
      (RXz_e (fun c k q => by simp only [S_c_X11_put, or_false] at q; omega)
          (fun c k q => by simp only [S_c_X12_put, or_false] at q; omega)
          (fun x0_ x1_ e q => by first | (simp [S_c_X11_put] at q; done) | (exfalso; revert e; simp; done) | (simp [S_c_X11_put] at q; omega) | (simp [S_c_X11_put] at q; simp at e; omega))
          (fun x0_ x1_ e q => by first | (simp [S_c_X11_put] at q; done) | (exfalso; revert e; simp; done) | (simp [S_c_X11_put] at q; omega) | (simp [S_c_X11_put] at q; simp at e; omega))
          (fun x0_ x1_ x2_ x3_ e q => by first | (simp [S_c_X11_put] at q; done) | (exfalso; revert e; simp; done) | (simp [S_c_X11_put] at q; omega) | (simp [S_c_X11_put] at q; simp at e; omega))
          (fun x0_ x1_ x2_ x3_ e q => by first | (simp [S_c_X11_put] at q; done) | (exfalso; revert e; simp; done) | (simp [S_c_X11_put] at q; omega) | (simp [S_c_X11_put] at q; simp at e; omega))
          (fun x0_ x1_ x2_ x3_ e q => by first | (simp [S_c_X11_put] at q; done) | (exfalso; revert e; simp; done) | (simp [S_c_X11_put] at q; omega) | (simp [S_c_X11_put] at q; simp at e; omega))
          (fun x0_ x1_ x2_ x3_ e q => by first | (simp [S_c_X11_put] at q; done) | (exfalso; revert e; simp; done) | (simp [S_c_X11_put] at q; omega) | (simp [S_c_X11_put] at q; simp at e; omega))
          (fun e q => by first | (simp [S_c_X11_put] at q; done) | (exfalso; revert e; simp; done) | (simp [S_c_X11_put] at q; omega) | (simp [S_c_X11_put] at q; simp at e; omega))
          (fun x0_ x1_ x2_ x3_ e q => by first | (simp [S_c_X11_put] at q; done) | (exfalso; revert e; simp; done) | (simp [S_c_X11_put] at q; omega) | (simp [S_c_X11_put] at q; simp at e; omega))
          (fun c k j p e q => by first | (simp [S_c_X12_put] at q; done) | (unfold PRz at p; dsimp only at p e; omega))
          (fun e q => by first | (simp [S_c_X12_put] at q; done) | (exfalso; revert e; simp; done) | (simp [S_c_X12_put] at q; omega) | (simp [S_c_X12_put] at q; simp at e; omega))
          (fun x0_ x1_ e q => by first | (simp [S_c_X12_put] at q; done) | (exfalso; revert e; simp; done) | (simp [S_c_X12_put] at q; omega) | (simp [S_c_X12_put] at q; simp at e; omega))
          (fun x0_ x1_ e q => by first | (simp [S_c_X12_put] at q; done) | (exfalso; revert e; simp; done) | (simp [S_c_X12_put] at q; omega) | (simp [S_c_X12_put] at q; simp at e; omega))
          (fun c k j p e q => by first | (simp at q; done) | (unfold PRz at p; dsimp only at p e; simp at q; omega)))
    , eq_put h hF1 (fun k => ⟨by simp [S_c_X11_put], by simp [S_c_X11_put]⟩) hs1 hs2⟩
theorem st_34 {v u t s q : Int32} {M M1 M2 : mM} {r1 r2 : Int32} (h : RXz M.1) (hD : InvD M) (hF1 : FR (S_c_X11_move) M M1) (hs1 : SP_X11_move v u t s q M r1 M1) (hF2 : FR (S_c_X12_move) M1 M2) (hs2 : SP_X12_move v u t s q M1 r2 M2) : RXz M2.1 ∧ r1 = r2 := by
  refine ⟨RXz_t (T := []) (fun _ _ => False) h hF1 hF2 (kq_FR hF2 (by intro j q; simp [S_c_X12_move] at q)) (Or.inl ((hF2 (12, 0, 0) 3 (by simp [S_c_X12_move])).trans (hF1 (12, 0, 0) 3 (by simp [S_c_X11_move])))) (fun _ _ _ _ _ e _ => e.elim)
      (RXz_e (fun c k q => by simp only [S_c_X11_move, or_false] at q; omega)
          (fun c k q => by simp only [S_c_X12_move, or_false] at q; omega)
          (fun x0_ x1_ e q => by first | (simp [S_c_X11_move] at q; done) | (exfalso; revert e; simp; done) | (simp [S_c_X11_move] at q; omega) | (simp [S_c_X11_move] at q; simp at e; omega))
          (fun x0_ x1_ e q => by first | (simp [S_c_X11_move] at q; done) | (exfalso; revert e; simp; done) | (simp [S_c_X11_move] at q; omega) | (simp [S_c_X11_move] at q; simp at e; omega))
          (fun x0_ x1_ x2_ x3_ e q => by first | (simp [S_c_X11_move] at q; done) | (exfalso; revert e; simp; done) | (simp [S_c_X11_move] at q; omega) | (simp [S_c_X11_move] at q; simp at e; omega))
          (fun x0_ x1_ x2_ x3_ e q => by first | (simp [S_c_X11_move] at q; done) | (exfalso; revert e; simp; done) | (simp [S_c_X11_move] at q; omega) | (simp [S_c_X11_move] at q; simp at e; omega))
          (fun x0_ x1_ x2_ x3_ e q => by first | (simp [S_c_X11_move] at q; done) | (exfalso; revert e; simp; done) | (simp [S_c_X11_move] at q; omega) | (simp [S_c_X11_move] at q; simp at e; omega))
          (fun x0_ x1_ x2_ x3_ e q => by first | (simp [S_c_X11_move] at q; done) | (exfalso; revert e; simp; done) | (simp [S_c_X11_move] at q; omega) | (simp [S_c_X11_move] at q; simp at e; omega))
          (fun e q => by first | (simp [S_c_X11_move] at q; done) | (exfalso; revert e; simp; done) | (simp [S_c_X11_move] at q; omega) | (simp [S_c_X11_move] at q; simp at e; omega))
          (fun x0_ x1_ x2_ x3_ e q => by first | (simp [S_c_X11_move] at q; done) | (exfalso; revert e; simp; done) | (simp [S_c_X11_move] at q; omega) | (simp [S_c_X11_move] at q; simp at e; omega))
          (fun c k j p e q => by first | (simp [S_c_X12_move] at q; done) | (unfold PRz at p; dsimp only at p e; omega))
          (fun e q => by first | (simp [S_c_X12_move] at q; done) | (exfalso; revert e; simp; done) | (simp [S_c_X12_move] at q; omega) | (simp [S_c_X12_move] at q; simp at e; omega))
          (fun x0_ x1_ e q => by first | (simp [S_c_X12_move] at q; done) | (exfalso; revert e; simp; done) | (simp [S_c_X12_move] at q; omega) | (simp [S_c_X12_move] at q; simp at e; omega))
          (fun x0_ x1_ e q => by first | (simp [S_c_X12_move] at q; done) | (exfalso; revert e; simp; done) | (simp [S_c_X12_move] at q; omega) | (simp [S_c_X12_move] at q; simp at e; omega))
          (fun c k j p e q => by first | (simp at q; done) | (unfold PRz at p; dsimp only at p e; simp at q; omega)))
    , eq_move h hF1 (fun k => ⟨by simp [S_c_X11_move], by simp [S_c_X11_move]⟩) hs1 hs2⟩
theorem st_35 {M M1 M2 : mM} {r1 r2 : Int32} (h : RXz M.1) (hD : InvD M) (hF1 : FR (S_c_X11_image) M M1) (hs1 : SP_X11_image M r1 M1) (hF2 : FR (S_c_X12_image) M1 M2) (hs2 : SP_X12_image M1 r2 M2) : RXz M2.1 ∧ r1 = r2 := by
  have bb := bnd5 h hD
  have a := nnC_image hs1 bb.1.2 bb.2.1.2
  have b := nnD_image hs2
  have e3 : M1.1 (12, 0, 0) 3 = M.1 (12, 0, 0) 3 := hF1 _ _ (by simp [S_c_X11_image])
  have e8 : M.1 (11, 0, 0) 8 = M.1 (12, 0, 0) 3 := RXzg h Pz_11 (by simp)
  have g1 : ∀ j, M1.1 (50, 0, 0) j = M.1 (50, 0, 0) j := fun j => hF1 _ _ (by simp [S_c_X11_image])
  have g2 : ∀ (c : rf) (k : Nat), c.1 < 12 ∨ c.1 = 26 ∨ c.1 = 27 → M2.1 c k = M1.1 c k := fun c k hc => hF2 c k (fun q => by simp only [S_c_X12_image, or_false] at q; omega)
  have y10 : M.1 (10, 0, 0) 7 = M.1 (50, 0, 0) 0 := RXzg h Pz0_10 (by simp)
  have y3 : M.1 (3, 0, 0) 3 = M.1 (50, 0, 0) 3 := RXzg h Pz0_3 (by simp)
  have y5 : ∀ w, w < 2 → M.1 (5, 0, w) 1 = M.1 (50, 0, 0) (4 + w) := fun w hw => RXzg h (Pz0_5 hw) (by simp)
  have y2 : ∀ k, k ≤ 2 → M.1 (2, 0, 0) k = M.1 (50, 0, 0) (6 + k) := fun k hk => RXzg h (Pz0_2 hk) (by simp)
  have y26 : ∀ k, k < 5 → M.1 (26, 0, 0) k = M.1 (50, 0, 0) (9 + k) := fun k hk => RXzg h (Pz0_26 hk) (by simp)
  have y27 : ∀ k, k < 5 → M.1 (27, 0, 0) k = M.1 (50, 0, 0) (14 + k) := fun k hk => RXzg h (Pz0_27 hk) (by simp)
  refine ⟨RXz_t (T := []) (fun c _ => c.1 = 11 ∨ c.2.1 = 1) h hF1 hF2 (kq_FR hF2 (by intro j q; simp [S_c_X12_image] at q)) (Or.inr (fun _ _ q => Or.inr q)) (fun c k d j p e g => ?_)
      (RXz_e (fun c k q => by simp only [S_c_X11_image, or_false] at q; omega)
          (fun c k q => by simp only [S_c_X12_image, or_false] at q; omega)
          (fun x0_ x1_ e q => by first | (simp [S_c_X11_image] at q; done) | (exfalso; revert e; simp; done) | (simp [S_c_X11_image] at q; omega) | (simp [S_c_X11_image] at q; simp at e; omega))
          (fun x0_ x1_ e q => by first | (simp [S_c_X11_image] at q; done) | (exfalso; revert e; simp; done) | (simp [S_c_X11_image] at q; omega) | (simp [S_c_X11_image] at q; simp at e; omega))
          (fun x0_ x1_ x2_ x3_ e q => by first | (simp [S_c_X11_image] at q; done) | (exfalso; revert e; simp; done) | (simp [S_c_X11_image] at q; omega) | (simp [S_c_X11_image] at q; simp at e; omega))
          (fun x0_ x1_ x2_ x3_ e q => by first | (simp [S_c_X11_image] at q; done) | (exfalso; revert e; simp; done) | (simp [S_c_X11_image] at q; omega) | (simp [S_c_X11_image] at q; simp at e; omega))
          (fun x0_ x1_ x2_ x3_ e q => by first | (simp [S_c_X11_image] at q; done) | (exfalso; revert e; simp; done) | (simp [S_c_X11_image] at q; omega) | (simp [S_c_X11_image] at q; simp at e; omega))
          (fun x0_ x1_ x2_ x3_ e q => by first | (simp [S_c_X11_image] at q; done) | (exfalso; revert e; simp; done) | (simp [S_c_X11_image] at q; omega) | (simp [S_c_X11_image] at q; simp at e; omega))
          (fun e q => by first | (simp [S_c_X11_image] at q; done) | (exfalso; revert e; simp; done) | (simp [S_c_X11_image] at q; omega) | (simp [S_c_X11_image] at q; simp at e; omega))
          (fun x0_ x1_ x2_ x3_ e q => by first | (simp [S_c_X11_image] at q; done) | (exfalso; revert e; simp; done) | (simp [S_c_X11_image] at q; omega) | (simp [S_c_X11_image] at q; simp at e; omega))
          (fun c k j p e q => by first | (simp [S_c_X12_image] at q; done) | (unfold PRz at p; dsimp only at p e; omega))
          (fun e q => by first | (simp [S_c_X12_image] at q; done) | (exfalso; revert e; simp; done) | (simp [S_c_X12_image] at q; omega) | (simp [S_c_X12_image] at q; simp at e; omega))
          (fun x0_ x1_ e q => by first | (simp [S_c_X12_image] at q; done) | (exfalso; revert e; simp; done) | (simp [S_c_X12_image] at q; omega) | (simp [S_c_X12_image] at q; simp at e; omega))
          (fun x0_ x1_ e q => by first | (simp [S_c_X12_image] at q; done) | (exfalso; revert e; simp; done) | (simp [S_c_X12_image] at q; omega) | (simp [S_c_X12_image] at q; simp at e; omega))
          (fun c k j p e q => by first | (simp at q; done) | (unfold PRz at p; dsimp only at p e; simp at q; omega)))
    , ?_⟩
  · rcases c with ⟨c1, c2, c3⟩
    rcases d with ⟨d1, d2, d3⟩
    replace e : (c1, c2, c3).1 = 11 ∨ (c1, c2, c3).2.1 = 1 := e
    dsimp only at e
    unfold PRz at p
    dsimp only at p
    rcases p with ⟨h0, rfl, rfl, rfl, p⟩ | ⟨rfl, rfl, rfl, rfl, rfl, rfl, rfl, rfl⟩ | ⟨rfl, rfl, h0, rfl, rfl, rfl, ⟨rfl, rfl⟩ | ⟨rfl, rfl⟩⟩
    · obtain rfl : c2 = 1 := by
        rcases p with p | p | p | p | p | p <;> omega
      rw [g2 _ _ (by dsimp only; omega), b.2 j (by omega), g1]
      rcases p with ⟨rfl, rfl, rfl, rfl⟩ | ⟨rfl, rfl, rfl, rfl⟩ | ⟨rfl, hk, rfl, rfl⟩ | ⟨rfl, rfl, hk, rfl⟩ | ⟨rfl, rfl, hk, rfl⟩ | ⟨rfl, rfl, hk, rfl⟩
      · exact a.2.1.trans y10
      · exact a.2.2.1.trans y3
      · exact (a.2.2.2.1 c3 hk).trans (y5 c3 hk)
      · exact (a.2.2.2.2.1 k hk).trans (y2 k hk)
      · exact (a.2.2.2.2.2 k hk).1.trans (y26 k hk)
      · exact (a.2.2.2.2.2 k hk).2.trans (y27 k hk)
    · rw [g2 _ _ (by dsimp only; omega), a.1.2, b.1.2, e3, e8]
    · omega
    · omega
  · rw [a.1.1, b.1.1, e3, e8]
theorem st_36 {M M1 M2 : mM} {r1 r2 : Int32} (h : RXz M.1) (hD : InvD M) (hF1 : FR (S_c_X11_restore) M M1) (hs1 : SP_X11_restore M r1 M1) (hF2 : FR (S_c_X12_restore) M1 M2) (hs2 : SP_X12_restore M1 r2 M2) : RXz M2.1 ∧ r1 = r2 := by
  have b := nnD_restore hs2
  have e3 : M1.1 (12, 0, 0) 3 = M.1 (12, 0, 0) 3 := hF1 _ _ (by simp [S_c_X11_restore])
  have e8 : M.1 (11, 0, 0) 8 = M.1 (12, 0, 0) 3 := RXzg h Pz_11 (by simp)
  have g2 : ∀ (c : rf) (k : Nat), c.1 < 12 ∨ c.1 = 26 ∨ c.1 = 27 → M2.1 c k = M1.1 c k := fun c k hc => hF2 c k (fun q => by simp only [S_c_X12_restore, or_false] at q; omega)
  have g1 : ∀ j, M1.1 (51, 0, 0) j = M.1 (51, 0, 0) j := fun j => hF1 _ _ (by simp [S_c_X11_restore])
  have a := nnC_restore hs1 (fun q => bnd5k h hD (by rw [← e8]; exact q))
  rw [e3, ← e8] at b
  rcases a with a | a <;> rcases b with b | b
  · refine ⟨fun c k d j p g => ?_, i32e (by omega)⟩
    have p' := p
    unfold PRz at p'
    rw [b.2.2 c k (by omega), a.2.2 c k (by omega), b.2.2 d j (by omega), a.2.2 d j (by omega)]
    exact h c k d j p (fun q => by have := g q; rw [b.2.2 (12, 0, 0) 3 (by decide), a.2.2 (12, 0, 0) 3 (by decide)] at this; exact this)
  · exact absurd a.1 b.1
  · exact absurd b.1 a.1
  · have hne : ¬ (M.1 (12, 0, 0) 3).toInt = 0 := by rw [← e8]; exact a.1
    refine ⟨RXz_t (T := [0, 1, 2, 3, 4, 5, 6, 7, 8, 9, 10, 11, 12, 13, 14, 15, 16, 17, 18, 19]) (fun c _ => c.2.1 = 0 ∧ ¬ c.1 = 11 ∧ ¬ c.1 = 6) h hF1 hF2 (fun j hj hn => absurd (by simp; omega) hn) (Or.inl ((hF2 (12, 0, 0) 3 (by simp [S_c_X12_restore])).trans (hF1 (12, 0, 0) 3 (by simp [S_c_X11_restore])))) (fun c k d j p e g => ?_)
      (RXz_e (fun c k q => by simp only [S_c_X11_restore, or_false] at q; omega)
          (fun c k q => by simp only [S_c_X12_restore, or_false] at q; omega)
          (fun x0_ x1_ e q => by first | (simp [S_c_X11_restore] at q; done) | (exfalso; revert e; simp; done) | (simp [S_c_X11_restore] at q; omega) | (simp [S_c_X11_restore] at q; simp at e; omega))
          (fun x0_ x1_ e q => by first | (simp [S_c_X11_restore] at q; done) | (exfalso; revert e; simp; done) | (simp [S_c_X11_restore] at q; omega) | (simp [S_c_X11_restore] at q; simp at e; omega))
          (fun x0_ x1_ x2_ x3_ e q => by first | (simp [S_c_X11_restore] at q; done) | (exfalso; revert e; simp; done) | (simp [S_c_X11_restore] at q; omega) | (simp [S_c_X11_restore] at q; simp at e; omega))
          (fun x0_ x1_ x2_ x3_ e q => by first | (simp [S_c_X11_restore] at q; done) | (exfalso; revert e; simp; done) | (simp [S_c_X11_restore] at q; omega) | (simp [S_c_X11_restore] at q; simp at e; omega))
          (fun x0_ x1_ x2_ x3_ e q => by first | (simp [S_c_X11_restore] at q; done) | (exfalso; revert e; simp; done) | (simp [S_c_X11_restore] at q; omega) | (simp [S_c_X11_restore] at q; simp at e; omega))
          (fun x0_ x1_ x2_ x3_ e q => by first | (simp [S_c_X11_restore] at q; done) | (exfalso; revert e; simp; done) | (simp [S_c_X11_restore] at q; omega) | (simp [S_c_X11_restore] at q; simp at e; omega))
          (fun e q => by first | (simp [S_c_X11_restore] at q; done) | (exfalso; revert e; simp; done) | (simp [S_c_X11_restore] at q; omega) | (simp [S_c_X11_restore] at q; simp at e; omega))
          (fun x0_ x1_ x2_ x3_ e q => by first | (simp [S_c_X11_restore] at q; done) | (exfalso; revert e; simp; done) | (simp [S_c_X11_restore] at q; omega) | (simp [S_c_X11_restore] at q; simp at e; omega))
          (fun c k j p e q => by first | (simp [S_c_X12_restore] at q; done) | (unfold PRz at p; dsimp only at p e; omega))
          (fun e q => by first | (simp [S_c_X12_restore] at q; done) | (exfalso; revert e; simp; done) | (simp [S_c_X12_restore] at q; omega) | (simp [S_c_X12_restore] at q; simp at e; omega))
          (fun x0_ x1_ e q => by first | (simp [S_c_X12_restore] at q; done) | (exfalso; revert e; simp; done) | (simp [S_c_X12_restore] at q; omega) | (simp [S_c_X12_restore] at q; simp at e; omega))
          (fun x0_ x1_ e q => by first | (simp [S_c_X12_restore] at q; done) | (exfalso; revert e; simp; done) | (simp [S_c_X12_restore] at q; omega) | (simp [S_c_X12_restore] at q; simp at e; omega))
          (fun c k j p e q => by first | (simp at q; done) | (unfold PRz at p; dsimp only at p e; simp at q; omega)))
      , ?_⟩
    · rcases c with ⟨c1, c2, c3⟩
      rcases d with ⟨d1, d2, d3⟩
      replace e : (c1, c2, c3).2.1 = 0 ∧ ¬ (c1, c2, c3).1 = 11 ∧ ¬ (c1, c2, c3).1 = 6 := e
      dsimp only at e
      unfold PRz at p
      dsimp only at p
      rcases p with ⟨h0, rfl, rfl, rfl, p⟩ | ⟨rfl, rfl, rfl, rfl, rfl, rfl, rfl, rfl⟩ | ⟨rfl, rfl, h0, rfl, rfl, rfl, ⟨rfl, rfl⟩ | ⟨rfl, rfl⟩⟩
      · obtain rfl : c2 = 0 := e.1
        rw [g2 _ _ (by dsimp only; omega), b.2.2 j (by omega), g1]
        rcases p with ⟨rfl, rfl, rfl, rfl⟩ | ⟨rfl, rfl, rfl, rfl⟩ | ⟨rfl, hk, rfl, rfl⟩ | ⟨rfl, rfl, hk, rfl⟩ | ⟨rfl, rfl, hk, rfl⟩ | ⟨rfl, rfl, hk, rfl⟩
        · exact a.2.2.1.trans (h _ _ _ _ Pz1_10 (fun _ => hne))
        · exact a.2.2.2.1.trans (h _ _ _ _ Pz1_3 (fun _ => hne))
        · exact (a.2.2.2.2.1 c3 hk).trans (h _ _ _ _ (Pz1_5 hk) (fun _ => hne))
        · exact (a.2.2.2.2.2.1 k hk).trans (h _ _ _ _ (Pz1_2 hk) (fun _ => hne))
        · exact (a.2.2.2.2.2.2 k hk).1.trans (h _ _ _ _ (Pz1_26 hk) (fun _ => hne))
        · exact (a.2.2.2.2.2.2 k hk).2.trans (h _ _ _ _ (Pz1_27 hk) (fun _ => hne))
      · exact absurd rfl e.2.1
      · exact absurd rfl e.2.2
      · exact absurd rfl e.2.2
    · rw [a.2.1, b.2.1, g1]; exact h _ _ _ _ (by first | exact Pz1_10 | exact Pz1_3 | (unfold PRz; dsimp only; omega)) (fun _ => hne)
theorem st_37 {v : Int32} {M M1 M2 : mM} {r1 r2 : Int32} (h : RXz M.1) (hD : InvD M) (hF1 : FR (S_c_X11_tell) M M1) (hs1 : SP_X11_tell v M r1 M1) (hF2 : FR (S_c_X12_tell) M1 M2) (hs2 : SP_X12_tell v M1 r2 M2) : RXz M2.1 ∧ r1 = r2 := by
  have bb := bnd5 h hD
  have a := nnC_tell hs1 bb.2.1
  have b := nnD_tell hs2
  rw [hF1 (50, 0, 0) 5 (by simp [S_c_X11_tell])] at b
  have e1 := RXzi h (c := (5, 0, 1)) (k := 1) (d := (50, 0, 0)) (j := 5) (Pz0_5 (w := 1) (by decide))
  unfold TELN at a b
  refine ⟨RXz_t (fun c _ => c.1 = 5 ∧ c.2.1 = 0 ∧ c.2.2 = 1) h hF1 hF2 (KSP_X12_tell hs2) (Or.inl ((hF2 (12, 0, 0) 3 (by simp [S_c_X12_tell])).trans (hF1 (12, 0, 0) 3 (by simp [S_c_X11_tell])))) (fun c k d j p e g => ?_)
      (RXz_e (fun c k q => by simp only [S_c_X11_tell, or_false] at q; omega)
          (fun c k q => by simp only [S_c_X12_tell, or_false] at q; omega)
          (fun x0_ x1_ e q => by first | (simp [S_c_X11_tell] at q; done) | (exfalso; revert e; simp; done) | (simp [S_c_X11_tell] at q; omega) | (simp [S_c_X11_tell] at q; simp at e; omega))
          (fun x0_ x1_ e q => by first | (simp [S_c_X11_tell] at q; done) | (exfalso; revert e; simp; done) | (simp [S_c_X11_tell] at q; omega) | (simp [S_c_X11_tell] at q; simp at e; omega))
          (fun x0_ x1_ x2_ x3_ e q => by first | (simp [S_c_X11_tell] at q; done) | (exfalso; revert e; simp; done) | (simp [S_c_X11_tell] at q; omega) | (simp [S_c_X11_tell] at q; simp at e; omega))
          (fun x0_ x1_ x2_ x3_ e q => by first | (simp [S_c_X11_tell] at q; done) | (exfalso; revert e; simp; done) | (simp [S_c_X11_tell] at q; omega) | (simp [S_c_X11_tell] at q; simp at e; omega))
          (fun x0_ x1_ x2_ x3_ e q => by first | (simp [S_c_X11_tell] at q; done) | (exfalso; revert e; simp; done) | (simp [S_c_X11_tell] at q; omega) | (simp [S_c_X11_tell] at q; simp at e; omega))
          (fun x0_ x1_ x2_ x3_ e q => by first | (simp [S_c_X11_tell] at q; done) | (exfalso; revert e; simp; done) | (simp [S_c_X11_tell] at q; omega) | (simp [S_c_X11_tell] at q; simp at e; omega))
          (fun e q => by first | (simp [S_c_X11_tell] at q; done) | (exfalso; revert e; simp; done) | (simp [S_c_X11_tell] at q; omega) | (simp [S_c_X11_tell] at q; simp at e; omega))
          (fun x0_ x1_ x2_ x3_ e q => by first | (simp [S_c_X11_tell] at q; done) | (exfalso; revert e; simp; done) | (simp [S_c_X11_tell] at q; omega) | (simp [S_c_X11_tell] at q; simp at e; omega))
          (fun c k j p e q => by first | (simp [S_c_X12_tell] at q; done) | (unfold PRz at p; dsimp only at p e; omega))
          (fun e q => by first | (simp [S_c_X12_tell] at q; done) | (exfalso; revert e; simp; done) | (simp [S_c_X12_tell] at q; omega) | (simp [S_c_X12_tell] at q; simp at e; omega))
          (fun x0_ x1_ e q => by first | (simp [S_c_X12_tell] at q; done) | (exfalso; revert e; simp; done) | (simp [S_c_X12_tell] at q; omega) | (simp [S_c_X12_tell] at q; simp at e; omega))
          (fun x0_ x1_ e q => by first | (simp [S_c_X12_tell] at q; done) | (exfalso; revert e; simp; done) | (simp [S_c_X12_tell] at q; omega) | (simp [S_c_X12_tell] at q; simp at e; omega))
          (fun c k j p e q => by first | (simp at q; done) | (unfold PRz at p; dsimp only at p e; simp at q; omega)))
    , i32e (by omega)⟩
  replace e : c.1 = 5 ∧ c.2.1 = 0 ∧ c.2.2 = 1 := e
  unfold PRz at p
  rw [rfe (d := d) (a := 50) (b := 0) (c := 0) (by omega), rfe (d := c) (a := 5) (b := 0) (c := 1) (by omega), show j = 5 by omega, show k = 1 by omega, hF2 (5, 0, 1) 1 (by simp [S_c_X12_tell])]
  exact i32e (by omega)
theorem st_38 {v : Int32} {M M1 M2 : mM} {r1 r2 : Int32} (h : RXz M.1) (hD : InvD M) (hF1 : FR (S_c_X11_check) M M1) (hs1 : SP_X11_check v M r1 M1) (hF2 : FR (S_c_X12_check) M1 M2) (hs2 : SP_X12_check v M1 r2 M2) : RXz M2.1 ∧ True := by
  have a := nnC_check hs1
  have b := nnD_check hs2
  refine ⟨RXz_t (fun c _ => c.1 = 5 ∧ c.2.1 = 0 ∧ c.2.2 = 1) h hF1 hF2 b.2 (Or.inl ((hF2 (12, 0, 0) 3 (by simp [S_c_X12_check])).trans (hF1 (12, 0, 0) 3 (by simp [S_c_X11_check])))) (fun c k d j p e g => ?_)
      (RXz_e (fun c k q => by simp only [S_c_X11_check, or_false] at q; omega)
          (fun c k q => by simp only [S_c_X12_check, or_false] at q; omega)
          (fun x0_ x1_ e q => by first | (simp [S_c_X11_check] at q; done) | (exfalso; revert e; simp; done) | (simp [S_c_X11_check] at q; omega) | (simp [S_c_X11_check] at q; simp at e; omega))
          (fun x0_ x1_ e q => by first | (simp [S_c_X11_check] at q; done) | (exfalso; revert e; simp; done) | (simp [S_c_X11_check] at q; omega) | (simp [S_c_X11_check] at q; simp at e; omega))
          (fun x0_ x1_ x2_ x3_ e q => by first | (simp [S_c_X11_check] at q; done) | (exfalso; revert e; simp; done) | (simp [S_c_X11_check] at q; omega) | (simp [S_c_X11_check] at q; simp at e; omega))
          (fun x0_ x1_ x2_ x3_ e q => by first | (simp [S_c_X11_check] at q; done) | (exfalso; revert e; simp; done) | (simp [S_c_X11_check] at q; omega) | (simp [S_c_X11_check] at q; simp at e; omega))
          (fun x0_ x1_ x2_ x3_ e q => by first | (simp [S_c_X11_check] at q; done) | (exfalso; revert e; simp; done) | (simp [S_c_X11_check] at q; omega) | (simp [S_c_X11_check] at q; simp at e; omega))
          (fun x0_ x1_ x2_ x3_ e q => by first | (simp [S_c_X11_check] at q; done) | (exfalso; revert e; simp; done) | (simp [S_c_X11_check] at q; omega) | (simp [S_c_X11_check] at q; simp at e; omega))
          (fun e q => by first | (simp [S_c_X11_check] at q; done) | (exfalso; revert e; simp; done) | (simp [S_c_X11_check] at q; omega) | (simp [S_c_X11_check] at q; simp at e; omega))
          (fun x0_ x1_ x2_ x3_ e q => by first | (simp [S_c_X11_check] at q; done) | (exfalso; revert e; simp; done) | (simp [S_c_X11_check] at q; omega) | (simp [S_c_X11_check] at q; simp at e; omega))
          (fun c k j p e q => by first | (simp [S_c_X12_check] at q; done) | (unfold PRz at p; dsimp only at p e; omega))
          (fun e q => by first | (simp [S_c_X12_check] at q; done) | (exfalso; revert e; simp; done) | (simp [S_c_X12_check] at q; omega) | (simp [S_c_X12_check] at q; simp at e; omega))
          (fun x0_ x1_ e q => by first | (simp [S_c_X12_check] at q; done) | (exfalso; revert e; simp; done) | (simp [S_c_X12_check] at q; omega) | (simp [S_c_X12_check] at q; simp at e; omega))
          (fun x0_ x1_ e q => by first | (simp [S_c_X12_check] at q; done) | (exfalso; revert e; simp; done) | (simp [S_c_X12_check] at q; omega) | (simp [S_c_X12_check] at q; simp at e; omega))
          (fun c k j p e q => by first | (simp at q; done) | (unfold PRz at p; dsimp only at p e; simp at q; omega)))
    , trivial⟩
  replace e : c.1 = 5 ∧ c.2.1 = 0 ∧ c.2.2 = 1 := e
  unfold PRz at p
  rw [rfe (d := d) (a := 50) (b := 0) (c := 0) (by omega), rfe (d := c) (a := 5) (b := 0) (c := 1) (by omega), show j = 5 by omega, show k = 1 by omega, hF2 (5, 0, 1) 1 (by simp [S_c_X12_check]), a, b.1]
