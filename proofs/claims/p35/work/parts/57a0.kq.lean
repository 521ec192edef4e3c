/-! the first places of the model's row that a method leaves as they are -/
def kq (T : List Nat) (M M' : mM) : Prop := ∀ j : Nat, j ≤ 19 → ¬ j ∈ T → M'.1 (50, 0, 0) j = M.1 (50, 0, 0) j
theorem kq.refl {T : List Nat} {M : mM} : kq T M M := fun _ _ _ => rfl
theorem kq.trans {T : List Nat} {M M1 M2 : mM} (h : kq T M M1) (h2 : kq T M1 M2) : kq T M M2 := fun j hj hn => (h2 j hj hn).trans (h j hj hn)
theorem kq.mono {T T' : List Nat} {M M' : mM} (h : kq T M M') (hT : ∀ j ∈ T, j ∈ T') : kq T' M M' := fun j hj hn => h j hj (fun q => hn (hT j q))
theorem kq_up {T : List Nat} {M M' : mM} {i : Nat} {v : Int32} (he : M' = up M (50, 0, 0) i v) (hi : 19 < i ∨ i ∈ T) : kq T M M' := fun j hj hn => by
  rw [he]
  refine up_ne (fun q => ?_)
  rcases hi with h | h
  · have := q.2; omega
  · exact hn (q.2 ▸ h)
theorem kq_upo {T : List Nat} {M M' : mM} {c : rf} {i : Nat} {v : Int32} (he : M' = up M c i v) (hc : ((50, 0, 0) : rf) ≠ c) : kq T M M' := fun j _ _ => by rw [he, up_other _ _ hc]
theorem kq_FR {T : List Nat} {S : rf → Nat → Prop} {M M' : mM} (h : FR S M M') (hs : ∀ j : Nat, ¬ S (50, 0, 0) j) : kq T M M' := fun j _ _ => h _ j (hs j)
theorem rind {α : Type} {S : α → α → Prop} {a z : α} (h : RCH S a z) (P : α → Prop) (h0 : P a) (hs : ∀ x z, P x → S x z → P z) : P z := RCH.ind h0 hs h
theorem kq_all {T : List Nat} {M M' : mM} (h : M'.1 (50, 0, 0) = M.1 (50, 0, 0)) : kq T M M' := fun j _ _ => by rw [h]
