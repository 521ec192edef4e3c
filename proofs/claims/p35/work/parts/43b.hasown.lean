def SP_X12_hasOwn (v : Int32) (u : Int32) (Mz : mM) (r_ : Int32) : Prop := (((v.toInt = 0) ∧ r_ = 1) ∨ ((v.toInt = 1) ∧ (((u.toInt = 0) ∧ r_ = 1) ∨ ((¬ u.toInt = 0) ∧ (((¬ u.toInt = 3) ∧ r_ = 0) ∨ ((u.toInt = 3) ∧ r_ = 1))))) ∨ ((v.toInt = 2) ∧ (((¬ u.toInt = 1) ∧ r_ = 0) ∨ ((u.toInt = 1) ∧ r_ = 1))) ∨ ((v.toInt = 3) ∧ (((u.toInt = 0) ∧ r_ = 1) ∨ ((¬ u.toInt = 0) ∧ (((¬ u.toInt = 2) ∧ r_ = 0) ∨ ((u.toInt = 2) ∧ r_ = 1))))) ∨ ((v.toInt = 4) ∧ (((¬ u.toInt = 2) ∧ r_ = 0) ∨ ((u.toInt = 2) ∧ r_ = 1))) ∨ ((v.toInt = 5) ∧ (((¬ u.toInt = 1) ∧ r_ = 0) ∨ ((u.toInt = 1) ∧ r_ = 1))) ∨ ((v.toInt = 6) ∧ (((u.toInt = 1) ∧ r_ = 1) ∨ ((¬ u.toInt = 1) ∧ (((¬ u.toInt = 2) ∧ r_ = 0) ∨ ((u.toInt = 2) ∧ r_ = 1))))) ∨ (((¬ v.toInt = 0 ∧ ¬ v.toInt = 1 ∧ ¬ v.toInt = 2 ∧ ¬ v.toInt = 3 ∧ ¬ v.toInt = 4 ∧ ¬ v.toInt = 5 ∧ ¬ v.toInt = 6)) ∧ (((¬ u.toInt = 3) ∧ r_ = 0) ∨ ((u.toInt = 3) ∧ r_ = 1))))
theorem lf_c_X12_hasOwn_0  (v : Int32) (hv : 0 ≤ v.toInt ∧ v.toInt ≤ 7) : v.toInt = 0 ∨ v.toInt = 1 ∨ v.toInt = 2 ∨ v.toInt = 3 ∨ v.toInt = 4 ∨ v.toInt = 5 ∨ v.toInt = 6 ∨ (¬ v.toInt = 0 ∧ ¬ v.toInt = 1 ∧ ¬ v.toInt = 2 ∧ ¬ v.toInt = 3 ∧ ¬ v.toInt = 4 ∧ ¬ v.toInt = 5 ∧ ¬ v.toInt = 6) := by have r_v := rngI v; omega
theorem lf_c_X12_hasOwn_1  (v : Int32) (u : Int32) (hv : 0 ≤ v.toInt ∧ v.toInt ≤ 7) (hu : 0 ≤ u.toInt ∧ u.toInt ≤ 3) (e1_ : v.toInt = 0) : 0 ≤ (1 : Int32).toInt ∧ (1 : Int32).toInt ≤ 1 ∧ ((1 : Int32).toInt = 0 ∨ ((v.toInt = 0 ∧ (u.toInt = 0 ∨ u.toInt = 1 ∨ u.toInt = 2 ∨ u.toInt = 3)) ∨ (v.toInt = 1 ∧ (u.toInt = 0 ∨ u.toInt = 3)) ∨ (v.toInt = 2 ∧ (u.toInt = 1)) ∨ (v.toInt = 3 ∧ (u.toInt = 0 ∨ u.toInt = 2)) ∨ (v.toInt = 4 ∧ (u.toInt = 2)) ∨ (v.toInt = 5 ∧ (u.toInt = 1)) ∨ (v.toInt = 6 ∧ (u.toInt = 1 ∨ u.toInt = 2)) ∨ (v.toInt = 7 ∧ (u.toInt = 3)))) ∧ ((1 : Int32).toInt = 0 → ¬ v.toInt = 0) := by have r_v := rngI v; have r_u := rngI u; have r9 := li_1; omega
theorem lf_c_X12_hasOwn_2  (v : Int32) (u : Int32) (hv : 0 ≤ v.toInt ∧ v.toInt ≤ 7) (hu : 0 ≤ u.toInt ∧ u.toInt ≤ 3) (e1_ : v.toInt = 1) (h2_ : u.toInt = 0) : 0 ≤ (1 : Int32).toInt ∧ (1 : Int32).toInt ≤ 1 ∧ ((1 : Int32).toInt = 0 ∨ ((v.toInt = 0 ∧ (u.toInt = 0 ∨ u.toInt = 1 ∨ u.toInt = 2 ∨ u.toInt = 3)) ∨ (v.toInt = 1 ∧ (u.toInt = 0 ∨ u.toInt = 3)) ∨ (v.toInt = 2 ∧ (u.toInt = 1)) ∨ (v.toInt = 3 ∧ (u.toInt = 0 ∨ u.toInt = 2)) ∨ (v.toInt = 4 ∧ (u.toInt = 2)) ∨ (v.toInt = 5 ∧ (u.toInt = 1)) ∨ (v.toInt = 6 ∧ (u.toInt = 1 ∨ u.toInt = 2)) ∨ (v.toInt = 7 ∧ (u.toInt = 3)))) ∧ ((1 : Int32).toInt = 0 → ¬ v.toInt = 0) := by have r_v := rngI v; have r_u := rngI u; have r9 := li_1; omega
theorem lf_c_X12_hasOwn_3  (v : Int32) (u : Int32) (hv : 0 ≤ v.toInt ∧ v.toInt ≤ 7) (hu : 0 ≤ u.toInt ∧ u.toInt ≤ 3) (e1_ : v.toInt = 1) (h2_ : ¬ u.toInt = 0) (h3_ : ¬ u.toInt = 3) : 0 ≤ (0 : Int32).toInt ∧ (0 : Int32).toInt ≤ 1 ∧ ((0 : Int32).toInt = 0 ∨ ((v.toInt = 0 ∧ (u.toInt = 0 ∨ u.toInt = 1 ∨ u.toInt = 2 ∨ u.toInt = 3)) ∨ (v.toInt = 1 ∧ (u.toInt = 0 ∨ u.toInt = 3)) ∨ (v.toInt = 2 ∧ (u.toInt = 1)) ∨ (v.toInt = 3 ∧ (u.toInt = 0 ∨ u.toInt = 2)) ∨ (v.toInt = 4 ∧ (u.toInt = 2)) ∨ (v.toInt = 5 ∧ (u.toInt = 1)) ∨ (v.toInt = 6 ∧ (u.toInt = 1 ∨ u.toInt = 2)) ∨ (v.toInt = 7 ∧ (u.toInt = 3)))) ∧ ((0 : Int32).toInt = 0 → ¬ v.toInt = 0) := by have r_v := rngI v; have r_u := rngI u; have r9 := li_0; omega
theorem lf_c_X12_hasOwn_4  (v : Int32) (u : Int32) (hv : 0 ≤ v.toInt ∧ v.toInt ≤ 7) (hu : 0 ≤ u.toInt ∧ u.toInt ≤ 3) (e1_ : v.toInt = 1) (h2_ : ¬ u.toInt = 0) (h3_ : u.toInt = 3) : 0 ≤ (1 : Int32).toInt ∧ (1 : Int32).toInt ≤ 1 ∧ ((1 : Int32).toInt = 0 ∨ ((v.toInt = 0 ∧ (u.toInt = 0 ∨ u.toInt = 1 ∨ u.toInt = 2 ∨ u.toInt = 3)) ∨ (v.toInt = 1 ∧ (u.toInt = 0 ∨ u.toInt = 3)) ∨ (v.toInt = 2 ∧ (u.toInt = 1)) ∨ (v.toInt = 3 ∧ (u.toInt = 0 ∨ u.toInt = 2)) ∨ (v.toInt = 4 ∧ (u.toInt = 2)) ∨ (v.toInt = 5 ∧ (u.toInt = 1)) ∨ (v.toInt = 6 ∧ (u.toInt = 1 ∨ u.toInt = 2)) ∨ (v.toInt = 7 ∧ (u.toInt = 3)))) ∧ ((1 : Int32).toInt = 0 → ¬ v.toInt = 0) := by have r_v := rngI v; have r_u := rngI u; have r9 := li_1; omega
theorem lf_c_X12_hasOwn_5  (v : Int32) (u : Int32) (hv : 0 ≤ v.toInt ∧ v.toInt ≤ 7) (hu : 0 ≤ u.toInt ∧ u.toInt ≤ 3) (e1_ : v.toInt = 2) (h4_ : ¬ u.toInt = 1) : 0 ≤ (0 : Int32).toInt ∧ (0 : Int32).toInt ≤ 1 ∧ ((0 : Int32).toInt = 0 ∨ ((v.toInt = 0 ∧ (u.toInt = 0 ∨ u.toInt = 1 ∨ u.toInt = 2 ∨ u.toInt = 3)) ∨ (v.toInt = 1 ∧ (u.toInt = 0 ∨ u.toInt = 3)) ∨ (v.toInt = 2 ∧ (u.toInt = 1)) ∨ (v.toInt = 3 ∧ (u.toInt = 0 ∨ u.toInt = 2)) ∨ (v.toInt = 4 ∧ (u.toInt = 2)) ∨ (v.toInt = 5 ∧ (u.toInt = 1)) ∨ (v.toInt = 6 ∧ (u.toInt = 1 ∨ u.toInt = 2)) ∨ (v.toInt = 7 ∧ (u.toInt = 3)))) ∧ ((0 : Int32).toInt = 0 → ¬ v.toInt = 0) := by have r_v := rngI v; have r_u := rngI u; have r9 := li_0; omega
theorem lf_c_X12_hasOwn_6  (v : Int32) (u : Int32) (hv : 0 ≤ v.toInt ∧ v.toInt ≤ 7) (hu : 0 ≤ u.toInt ∧ u.toInt ≤ 3) (e1_ : v.toInt = 2) (h4_ : u.toInt = 1) : 0 ≤ (1 : Int32).toInt ∧ (1 : Int32).toInt ≤ 1 ∧ ((1 : Int32).toInt = 0 ∨ ((v.toInt = 0 ∧ (u.toInt = 0 ∨ u.toInt = 1 ∨ u.toInt = 2 ∨ u.toInt = 3)) ∨ (v.toInt = 1 ∧ (u.toInt = 0 ∨ u.toInt = 3)) ∨ (v.toInt = 2 ∧ (u.toInt = 1)) ∨ (v.toInt = 3 ∧ (u.toInt = 0 ∨ u.toInt = 2)) ∨ (v.toInt = 4 ∧ (u.toInt = 2)) ∨ (v.toInt = 5 ∧ (u.toInt = 1)) ∨ (v.toInt = 6 ∧ (u.toInt = 1 ∨ u.toInt = 2)) ∨ (v.toInt = 7 ∧ (u.toInt = 3)))) ∧ ((1 : Int32).toInt = 0 → ¬ v.toInt = 0) := by have r_v := rngI v; have r_u := rngI u; have r9 := li_1; omega
theorem lf_c_X12_hasOwn_7  (v : Int32) (u : Int32) (hv : 0 ≤ v.toInt ∧ v.toInt ≤ 7) (hu : 0 ≤ u.toInt ∧ u.toInt ≤ 3) (e1_ : v.toInt = 3) (h5_ : u.toInt = 0) : 0 ≤ (1 : Int32).toInt ∧ (1 : Int32).toInt ≤ 1 ∧ ((1 : Int32).toInt = 0 ∨ ((v.toInt = 0 ∧ (u.toInt = 0 ∨ u.toInt = 1 ∨ u.toInt = 2 ∨ u.toInt = 3)) ∨ (v.toInt = 1 ∧ (u.toInt = 0 ∨ u.toInt = 3)) ∨ (v.toInt = 2 ∧ (u.toInt = 1)) ∨ (v.toInt = 3 ∧ (u.toInt = 0 ∨ u.toInt = 2)) ∨ (v.toInt = 4 ∧ (u.toInt = 2)) ∨ (v.toInt = 5 ∧ (u.toInt = 1)) ∨ (v.toInt = 6 ∧ (u.toInt = 1 ∨ u.toInt = 2)) ∨ (v.toInt = 7 ∧ (u.toInt = 3)))) ∧ ((1 : Int32).toInt = 0 → ¬ v.toInt = 0) := by have r_v := rngI v; have r_u := rngI u; have r9 := li_1; omega
theorem lf_c_X12_hasOwn_8  (v : Int32) (u : Int32) (hv : 0 ≤ v.toInt ∧ v.toInt ≤ 7) (hu : 0 ≤ u.toInt ∧ u.toInt ≤ 3) (e1_ : v.toInt = 3) (h5_ : ¬ u.toInt = 0) (h6_ : ¬ u.toInt = 2) : 0 ≤ (0 : Int32).toInt ∧ (0 : Int32).toInt ≤ 1 ∧ ((0 : Int32).toInt = 0 ∨ ((v.toInt = 0 ∧ (u.toInt = 0 ∨ u.toInt = 1 ∨ u.toInt = 2 ∨ u.toInt = 3)) ∨ (v.toInt = 1 ∧ (u.toInt = 0 ∨ u.toInt = 3)) ∨ (v.toInt = 2 ∧ (u.toInt = 1)) ∨ (v.toInt = 3 ∧ (u.toInt = 0 ∨ u.toInt = 2)) ∨ (v.toInt = 4 ∧ (u.toInt = 2)) ∨ (v.toInt = 5 ∧ (u.toInt = 1)) ∨ (v.toInt = 6 ∧ (u.toInt = 1 ∨ u.toInt = 2)) ∨ (v.toInt = 7 ∧ (u.toInt = 3)))) ∧ ((0 : Int32).toInt = 0 → ¬ v.toInt = 0) := by have r_v := rngI v; have r_u := rngI u; have r9 := li_0; omega
theorem lf_c_X12_hasOwn_9  (v : Int32) (u : Int32) (hv : 0 ≤ v.toInt ∧ v.toInt ≤ 7) (hu : 0 ≤ u.toInt ∧ u.toInt ≤ 3) (e1_ : v.toInt = 3) (h5_ : ¬ u.toInt = 0) (h6_ : u.toInt = 2) : 0 ≤ (1 : Int32).toInt ∧ (1 : Int32).toInt ≤ 1 ∧ ((1 : Int32).toInt = 0 ∨ ((v.toInt = 0 ∧ (u.toInt = 0 ∨ u.toInt = 1 ∨ u.toInt = 2 ∨ u.toInt = 3)) ∨ (v.toInt = 1 ∧ (u.toInt = 0 ∨ u.toInt = 3)) ∨ (v.toInt = 2 ∧ (u.toInt = 1)) ∨ (v.toInt = 3 ∧ (u.toInt = 0 ∨ u.toInt = 2)) ∨ (v.toInt = 4 ∧ (u.toInt = 2)) ∨ (v.toInt = 5 ∧ (u.toInt = 1)) ∨ (v.toInt = 6 ∧ (u.toInt = 1 ∨ u.toInt = 2)) ∨ (v.toInt = 7 ∧ (u.toInt = 3)))) ∧ ((1 : Int32).toInt = 0 → ¬ v.toInt = 0) := by have r_v := rngI v; have r_u := rngI u; have r9 := li_1; omega
theorem lf_c_X12_hasOwn_10  (v : Int32) (u : Int32) (hv : 0 ≤ v.toInt ∧ v.toInt ≤ 7) (hu : 0 ≤ u.toInt ∧ u.toInt ≤ 3) (e1_ : v.toInt = 4) (h7_ : ¬ u.toInt = 2) : 0 ≤ (0 : Int32).toInt ∧ (0 : Int32).toInt ≤ 1 ∧ ((0 : Int32).toInt = 0 ∨ ((v.toInt = 0 ∧ (u.toInt = 0 ∨ u.toInt = 1 ∨ u.toInt = 2 ∨ u.toInt = 3)) ∨ (v.toInt = 1 ∧ (u.toInt = 0 ∨ u.toInt = 3)) ∨ (v.toInt = 2 ∧ (u.toInt = 1)) ∨ (v.toInt = 3 ∧ (u.toInt = 0 ∨ u.toInt = 2)) ∨ (v.toInt = 4 ∧ (u.toInt = 2)) ∨ (v.toInt = 5 ∧ (u.toInt = 1)) ∨ (v.toInt = 6 ∧ (u.toInt = 1 ∨ u.toInt = 2)) ∨ (v.toInt = 7 ∧ (u.toInt = 3)))) ∧ ((0 : Int32).toInt = 0 → ¬ v.toInt = 0) := by have r_v := rngI v; have r_u := rngI u; have r9 := li_0; omega
theorem lf_c_X12_hasOwn_11  (v : Int32) (u : Int32) (hv : 0 ≤ v.toInt ∧ v.toInt ≤ 7) (hu : 0 ≤ u.toInt ∧ u.toInt ≤ 3) (e1_ : v.toInt = 4) (h7_ : u.toInt = 2) : 0 ≤ (1 : Int32).toInt ∧ (1 : Int32).toInt ≤ 1 ∧ ((1 : Int32).toInt = 0 ∨ ((v.toInt = 0 ∧ (u.toInt = 0 ∨ u.toInt = 1 ∨ u.toInt = 2 ∨ u.toInt = 3)) ∨ (v.toInt = 1 ∧ (u.toInt = 0 ∨ u.toInt = 3)) ∨ (v.toInt = 2 ∧ (u.toInt = 1)) ∨ (v.toInt = 3 ∧ (u.toInt = 0 ∨ u.toInt = 2)) ∨ (v.toInt = 4 ∧ (u.toInt = 2)) ∨ (v.toInt = 5 ∧ (u.toInt = 1)) ∨ (v.toInt = 6 ∧ (u.toInt = 1 ∨ u.toInt = 2)) ∨ (v.toInt = 7 ∧ (u.toInt = 3)))) ∧ ((1 : Int32).toInt = 0 → ¬ v.toInt = 0) := by have r_v := rngI v; have r_u := rngI u; have r9 := li_1; omega
theorem lf_c_X12_hasOwn_12  (v : Int32) (u : Int32) (hv : 0 ≤ v.toInt ∧ v.toInt ≤ 7) (hu : 0 ≤ u.toInt ∧ u.toInt ≤ 3) (e1_ : v.toInt = 5) (h8_ : ¬ u.toInt = 1) : 0 ≤ (0 : Int32).toInt ∧ (0 : Int32).toInt ≤ 1 ∧ ((0 : Int32).toInt = 0 ∨ ((v.toInt = 0 ∧ (u.toInt = 0 ∨ u.toInt = 1 ∨ u.toInt = 2 ∨ u.toInt = 3)) ∨ (v.toInt = 1 ∧ (u.toInt = 0 ∨ u.toInt = 3)) ∨ (v.toInt = 2 ∧ (u.toInt = 1)) ∨ (v.toInt = 3 ∧ (u.toInt = 0 ∨ u.toInt = 2)) ∨ (v.toInt = 4 ∧ (u.toInt = 2)) ∨ (v.toInt = 5 ∧ (u.toInt = 1)) ∨ (v.toInt = 6 ∧ (u.toInt = 1 ∨ u.toInt = 2)) ∨ (v.toInt = 7 ∧ (u.toInt = 3)))) ∧ ((0 : Int32).toInt = 0 → ¬ v.toInt = 0) := by have r_v := rngI v; have r_u := rngI u; have r9 := li_0; omega
theorem lf_c_X12_hasOwn_13  (v : Int32) (u : Int32) (hv : 0 ≤ v.toInt ∧ v.toInt ≤ 7) (hu : 0 ≤ u.toInt ∧ u.toInt ≤ 3) (e1_ : v.toInt = 5) (h8_ : u.toInt = 1) : 0 ≤ (1 : Int32).toInt ∧ (1 : Int32).toInt ≤ 1 ∧ ((1 : Int32).toInt = 0 ∨ ((v.toInt = 0 ∧ (u.toInt = 0 ∨ u.toInt = 1 ∨ u.toInt = 2 ∨ u.toInt = 3)) ∨ (v.toInt = 1 ∧ (u.toInt = 0 ∨ u.toInt = 3)) ∨ (v.toInt = 2 ∧ (u.toInt = 1)) ∨ (v.toInt = 3 ∧ (u.toInt = 0 ∨ u.toInt = 2)) ∨ (v.toInt = 4 ∧ (u.toInt = 2)) ∨ (v.toInt = 5 ∧ (u.toInt = 1)) ∨ (v.toInt = 6 ∧ (u.toInt = 1 ∨ u.toInt = 2)) ∨ (v.toInt = 7 ∧ (u.toInt = 3)))) ∧ ((1 : Int32).toInt = 0 → ¬ v.toInt = 0) := by have r_v := rngI v; have r_u := rngI u; have r9 := li_1; omega
theorem lf_c_X12_hasOwn_14  (v : Int32) (u : Int32) (hv : 0 ≤ v.toInt ∧ v.toInt ≤ 7) (hu : 0 ≤ u.toInt ∧ u.toInt ≤ 3) (e1_ : v.toInt = 6) (h9_ : u.toInt = 1) : 0 ≤ (1 : Int32).toInt ∧ (1 : Int32).toInt ≤ 1 ∧ ((1 : Int32).toInt = 0 ∨ ((v.toInt = 0 ∧ (u.toInt = 0 ∨ u.toInt = 1 ∨ u.toInt = 2 ∨ u.toInt = 3)) ∨ (v.toInt = 1 ∧ (u.toInt = 0 ∨ u.toInt = 3)) ∨ (v.toInt = 2 ∧ (u.toInt = 1)) ∨ (v.toInt = 3 ∧ (u.toInt = 0 ∨ u.toInt = 2)) ∨ (v.toInt = 4 ∧ (u.toInt = 2)) ∨ (v.toInt = 5 ∧ (u.toInt = 1)) ∨ (v.toInt = 6 ∧ (u.toInt = 1 ∨ u.toInt = 2)) ∨ (v.toInt = 7 ∧ (u.toInt = 3)))) ∧ ((1 : Int32).toInt = 0 → ¬ v.toInt = 0) := by have r_v := rngI v; have r_u := rngI u; have r9 := li_1; omega
theorem lf_c_X12_hasOwn_15  (v : Int32) (u : Int32) (hv : 0 ≤ v.toInt ∧ v.toInt ≤ 7) (hu : 0 ≤ u.toInt ∧ u.toInt ≤ 3) (e1_ : v.toInt = 6) (h9_ : ¬ u.toInt = 1) (h10_ : ¬ u.toInt = 2) : 0 ≤ (0 : Int32).toInt ∧ (0 : Int32).toInt ≤ 1 ∧ ((0 : Int32).toInt = 0 ∨ ((v.toInt = 0 ∧ (u.toInt = 0 ∨ u.toInt = 1 ∨ u.toInt = 2 ∨ u.toInt = 3)) ∨ (v.toInt = 1 ∧ (u.toInt = 0 ∨ u.toInt = 3)) ∨ (v.toInt = 2 ∧ (u.toInt = 1)) ∨ (v.toInt = 3 ∧ (u.toInt = 0 ∨ u.toInt = 2)) ∨ (v.toInt = 4 ∧ (u.toInt = 2)) ∨ (v.toInt = 5 ∧ (u.toInt = 1)) ∨ (v.toInt = 6 ∧ (u.toInt = 1 ∨ u.toInt = 2)) ∨ (v.toInt = 7 ∧ (u.toInt = 3)))) ∧ ((0 : Int32).toInt = 0 → ¬ v.toInt = 0) := by have r_v := rngI v; have r_u := rngI u; have r9 := li_0; omega
theorem lf_c_X12_hasOwn_16  (v : Int32) (u : Int32) (hv : 0 ≤ v.toInt ∧ v.toInt ≤ 7) (hu : 0 ≤ u.toInt ∧ u.toInt ≤ 3) (e1_ : v.toInt = 6) (h9_ : ¬ u.toInt = 1) (h10_ : u.toInt = 2) : 0 ≤ (1 : Int32).toInt ∧ (1 : Int32).toInt ≤ 1 ∧ ((1 : Int32).toInt = 0 ∨ ((v.toInt = 0 ∧ (u.toInt = 0 ∨ u.toInt = 1 ∨ u.toInt = 2 ∨ u.toInt = 3)) ∨ (v.toInt = 1 ∧ (u.toInt = 0 ∨ u.toInt = 3)) ∨ (v.toInt = 2 ∧ (u.toInt = 1)) ∨ (v.toInt = 3 ∧ (u.toInt = 0 ∨ u.toInt = 2)) ∨ (v.toInt = 4 ∧ (u.toInt = 2)) ∨ (v.toInt = 5 ∧ (u.toInt = 1)) ∨ (v.toInt = 6 ∧ (u.toInt = 1 ∨ u.toInt = 2)) ∨ (v.toInt = 7 ∧ (u.toInt = 3)))) ∧ ((1 : Int32).toInt = 0 → ¬ v.toInt = 0) := by have r_v := rngI v; have r_u := rngI u; have r9 := li_1; omega
theorem lf_c_X12_hasOwn_17  (v : Int32) (hv : 0 ≤ v.toInt ∧ v.toInt ≤ 7) (e1_ : (¬ v.toInt = 0 ∧ ¬ v.toInt = 1 ∧ ¬ v.toInt = 2 ∧ ¬ v.toInt = 3 ∧ ¬ v.toInt = 4 ∧ ¬ v.toInt = 5 ∧ ¬ v.toInt = 6)) : v.toInt < 0 ∨ 6 < v.toInt := by have r_v := rngI v; omega
theorem lf_c_X12_hasOwn_18  (v : Int32) (u : Int32) (hv : 0 ≤ v.toInt ∧ v.toInt ≤ 7) (hu : 0 ≤ u.toInt ∧ u.toInt ≤ 3) (e1_ : (¬ v.toInt = 0 ∧ ¬ v.toInt = 1 ∧ ¬ v.toInt = 2 ∧ ¬ v.toInt = 3 ∧ ¬ v.toInt = 4 ∧ ¬ v.toInt = 5 ∧ ¬ v.toInt = 6)) (h11_ : ¬ u.toInt = 3) : 0 ≤ (0 : Int32).toInt ∧ (0 : Int32).toInt ≤ 1 ∧ ((0 : Int32).toInt = 0 ∨ ((v.toInt = 0 ∧ (u.toInt = 0 ∨ u.toInt = 1 ∨ u.toInt = 2 ∨ u.toInt = 3)) ∨ (v.toInt = 1 ∧ (u.toInt = 0 ∨ u.toInt = 3)) ∨ (v.toInt = 2 ∧ (u.toInt = 1)) ∨ (v.toInt = 3 ∧ (u.toInt = 0 ∨ u.toInt = 2)) ∨ (v.toInt = 4 ∧ (u.toInt = 2)) ∨ (v.toInt = 5 ∧ (u.toInt = 1)) ∨ (v.toInt = 6 ∧ (u.toInt = 1 ∨ u.toInt = 2)) ∨ (v.toInt = 7 ∧ (u.toInt = 3)))) ∧ ((0 : Int32).toInt = 0 → ¬ v.toInt = 0) := by have r_v := rngI v; have r_u := rngI u; have r9 := li_0; omega
theorem lf_c_X12_hasOwn_19  (v : Int32) (u : Int32) (hv : 0 ≤ v.toInt ∧ v.toInt ≤ 7) (hu : 0 ≤ u.toInt ∧ u.toInt ≤ 3) (e1_ : (¬ v.toInt = 0 ∧ ¬ v.toInt = 1 ∧ ¬ v.toInt = 2 ∧ ¬ v.toInt = 3 ∧ ¬ v.toInt = 4 ∧ ¬ v.toInt = 5 ∧ ¬ v.toInt = 6)) (h11_ : u.toInt = 3) : 0 ≤ (1 : Int32).toInt ∧ (1 : Int32).toInt ≤ 1 ∧ ((1 : Int32).toInt = 0 ∨ ((v.toInt = 0 ∧ (u.toInt = 0 ∨ u.toInt = 1 ∨ u.toInt = 2 ∨ u.toInt = 3)) ∨ (v.toInt = 1 ∧ (u.toInt = 0 ∨ u.toInt = 3)) ∨ (v.toInt = 2 ∧ (u.toInt = 1)) ∨ (v.toInt = 3 ∧ (u.toInt = 0 ∨ u.toInt = 2)) ∨ (v.toInt = 4 ∧ (u.toInt = 2)) ∨ (v.toInt = 5 ∧ (u.toInt = 1)) ∨ (v.toInt = 6 ∧ (u.toInt = 1 ∨ u.toInt = 2)) ∨ (v.toInt = 7 ∧ (u.toInt = 3)))) ∧ ((1 : Int32).toInt = 0 → ¬ v.toInt = 0) := by have r_v := rngI v; have r_u := rngI u; have r9 := li_1; omega
set_option maxHeartbeats 4000000 in
set_option maxRecDepth 100000 in
theorem c_X12_hasOwn (l : Launch) (G : va_G) (cy : Nat → ClassId) (ad : rf → Nat) (d : Nat) (v : Int32) (u : Int32) (Mz : mM) (hIz : InvD Mz) (hv : 0 ≤ v.toInt ∧ v.toInt ≤ 7) (hu : 0 ≤ u.toInt ∧ u.toInt ≤ 3) : WP DD l G cy ad yX12_hasOwn cX12_hasOwn 2 (some .boolean) d 0 [(0, vI v), (1, vI u)] [] Mz (fun r M' => Mz = M' ∧ (0 ≤ r.toInt ∧ r.toInt ≤ 1 ∧ (r.toInt = 0 ∨ ((v.toInt = 0 ∧ (u.toInt = 0 ∨ u.toInt = 1 ∨ u.toInt = 2 ∨ u.toInt = 3)) ∨ (v.toInt = 1 ∧ (u.toInt = 0 ∨ u.toInt = 3)) ∨ (v.toInt = 2 ∧ (u.toInt = 1)) ∨ (v.toInt = 3 ∧ (u.toInt = 0 ∨ u.toInt = 2)) ∨ (v.toInt = 4 ∧ (u.toInt = 2)) ∨ (v.toInt = 5 ∧ (u.toInt = 1)) ∨ (v.toInt = 6 ∧ (u.toInt = 1 ∨ u.toInt = 2)) ∨ (v.toInt = 7 ∧ (u.toInt = 3)))) ∧ (r.toInt = 0 → ¬ v.toInt = 0)) ∧ SP_X12_hasOwn v u Mz r) := by
  refine w_iload_n dX12_hasOwn_0 rfl 0 rfl ?_
  rcases (lf_c_X12_hasOwn_0 v hv) with e1_ | e1_ | e1_ | e1_ | e1_ | e1_ | e1_ | e1_
  · refine w_tsIn (tgt := 44) (off := 43) dX12_hasOwn_1 e1_ (by decide) (by decide) rfl (by decide) ?_
    refine w_iconst (v := 1) dX12_hasOwn_44 (by decide) ?_
    exact w_zret rfl dX12_hasOwn_45 ⟨by decide, by decide⟩ ⟨rfl, (lf_c_X12_hasOwn_1 v u hv hu e1_), (Or.inl ⟨e1_, rfl⟩)⟩
  · refine w_tsIn (tgt := 46) (off := 45) dX12_hasOwn_1 e1_ (by decide) (by decide) rfl (by decide) ?_
    refine w_iload_n dX12_hasOwn_46 rfl 1 rfl ?_
    refine w_if_eq (tgt := 55) dX12_hasOwn_47 (by decide) (rfl : u.toInt = u.toInt) (fun h2_ => ?_) (fun h2_ => ?_)
    · refine w_iconst (v := 1) dX12_hasOwn_55 (by decide) ?_
      refine w_goto (tgt := 60) dX12_hasOwn_56 (by decide) ?_
      exact w_zret rfl dX12_hasOwn_60 ⟨by decide, by decide⟩ ⟨rfl, (lf_c_X12_hasOwn_2 v u hv hu e1_ h2_), (Or.inr (Or.inl ⟨e1_, (Or.inl ⟨h2_, rfl⟩)⟩))⟩
    · refine w_iload_n dX12_hasOwn_50 rfl 1 rfl ?_
      refine w_iconst (v := 3) dX12_hasOwn_51 (by decide) ?_
      refine w_icmp_ne (tgt := 59) dX12_hasOwn_52 (by decide) (rfl : u.toInt = u.toInt) li_3 (fun h3_ => ?_) (fun h3_ => ?_)
      · refine w_iconst (v := 0) dX12_hasOwn_59 (by decide) ?_
        exact w_zret rfl dX12_hasOwn_60 ⟨by decide, by decide⟩ ⟨rfl, (lf_c_X12_hasOwn_3 v u hv hu e1_ h2_ h3_), (Or.inr (Or.inl ⟨e1_, (Or.inr ⟨h2_, (Or.inl ⟨h3_, rfl⟩)⟩)⟩))⟩
      · refine w_iconst (v := 1) dX12_hasOwn_55 (by decide) ?_
        refine w_goto (tgt := 60) dX12_hasOwn_56 (by decide) ?_
        exact w_zret rfl dX12_hasOwn_60 ⟨by decide, by decide⟩ ⟨rfl, (lf_c_X12_hasOwn_4 v u hv hu e1_ h2_ h3_), (Or.inr (Or.inl ⟨e1_, (Or.inr ⟨h2_, (Or.inr ⟨h3_, rfl⟩)⟩)⟩))⟩
  · refine w_tsIn (tgt := 61) (off := 60) dX12_hasOwn_1 e1_ (by decide) (by decide) rfl (by decide) ?_
    refine w_iload_n dX12_hasOwn_61 rfl 1 rfl ?_
    refine w_iconst (v := 1) dX12_hasOwn_62 (by decide) ?_
    refine w_icmp_ne (tgt := 70) dX12_hasOwn_63 (by decide) (rfl : u.toInt = u.toInt) li_1 (fun h4_ => ?_) (fun h4_ => ?_)
    · refine w_iconst (v := 0) dX12_hasOwn_70 (by decide) ?_
      exact w_zret rfl dX12_hasOwn_71 ⟨by decide, by decide⟩ ⟨rfl, (lf_c_X12_hasOwn_5 v u hv hu e1_ h4_), (Or.inr (Or.inr (Or.inl ⟨e1_, (Or.inl ⟨h4_, rfl⟩)⟩)))⟩
    · refine w_iconst (v := 1) dX12_hasOwn_66 (by decide) ?_
      refine w_goto (tgt := 71) dX12_hasOwn_67 (by decide) ?_
      exact w_zret rfl dX12_hasOwn_71 ⟨by decide, by decide⟩ ⟨rfl, (lf_c_X12_hasOwn_6 v u hv hu e1_ h4_), (Or.inr (Or.inr (Or.inl ⟨e1_, (Or.inr ⟨h4_, rfl⟩)⟩)))⟩
  · refine w_tsIn (tgt := 72) (off := 71) dX12_hasOwn_1 e1_ (by decide) (by decide) rfl (by decide) ?_
    refine w_iload_n dX12_hasOwn_72 rfl 1 rfl ?_
    refine w_if_eq (tgt := 81) dX12_hasOwn_73 (by decide) (rfl : u.toInt = u.toInt) (fun h5_ => ?_) (fun h5_ => ?_)
    · refine w_iconst (v := 1) dX12_hasOwn_81 (by decide) ?_
      refine w_goto (tgt := 86) dX12_hasOwn_82 (by decide) ?_
      exact w_zret rfl dX12_hasOwn_86 ⟨by decide, by decide⟩ ⟨rfl, (lf_c_X12_hasOwn_7 v u hv hu e1_ h5_), (Or.inr (Or.inr (Or.inr (Or.inl ⟨e1_, (Or.inl ⟨h5_, rfl⟩)⟩))))⟩
    · refine w_iload_n dX12_hasOwn_76 rfl 1 rfl ?_
      refine w_iconst (v := 2) dX12_hasOwn_77 (by decide) ?_
      refine w_icmp_ne (tgt := 85) dX12_hasOwn_78 (by decide) (rfl : u.toInt = u.toInt) li_2 (fun h6_ => ?_) (fun h6_ => ?_)
      · refine w_iconst (v := 0) dX12_hasOwn_85 (by decide) ?_
        exact w_zret rfl dX12_hasOwn_86 ⟨by decide, by decide⟩ ⟨rfl, (lf_c_X12_hasOwn_8 v u hv hu e1_ h5_ h6_), (Or.inr (Or.inr (Or.inr (Or.inl ⟨e1_, (Or.inr ⟨h5_, (Or.inl ⟨h6_, rfl⟩)⟩)⟩))))⟩
      · refine w_iconst (v := 1) dX12_hasOwn_81 (by decide) ?_
        refine w_goto (tgt := 86) dX12_hasOwn_82 (by decide) ?_
        exact w_zret rfl dX12_hasOwn_86 ⟨by decide, by decide⟩ ⟨rfl, (lf_c_X12_hasOwn_9 v u hv hu e1_ h5_ h6_), (Or.inr (Or.inr (Or.inr (Or.inl ⟨e1_, (Or.inr ⟨h5_, (Or.inr ⟨h6_, rfl⟩)⟩)⟩))))⟩
  · refine w_tsIn (tgt := 87) (off := 86) dX12_hasOwn_1 e1_ (by decide) (by decide) rfl (by decide) ?_
    refine w_iload_n dX12_hasOwn_87 rfl 1 rfl ?_
    refine w_iconst (v := 2) dX12_hasOwn_88 (by decide) ?_
    refine w_icmp_ne (tgt := 96) dX12_hasOwn_89 (by decide) (rfl : u.toInt = u.toInt) li_2 (fun h7_ => ?_) (fun h7_ => ?_)
    · refine w_iconst (v := 0) dX12_hasOwn_96 (by decide) ?_
      exact w_zret rfl dX12_hasOwn_97 ⟨by decide, by decide⟩ ⟨rfl, (lf_c_X12_hasOwn_10 v u hv hu e1_ h7_), (Or.inr (Or.inr (Or.inr (Or.inr (Or.inl ⟨e1_, (Or.inl ⟨h7_, rfl⟩)⟩)))))⟩
    · refine w_iconst (v := 1) dX12_hasOwn_92 (by decide) ?_
      refine w_goto (tgt := 97) dX12_hasOwn_93 (by decide) ?_
      exact w_zret rfl dX12_hasOwn_97 ⟨by decide, by decide⟩ ⟨rfl, (lf_c_X12_hasOwn_11 v u hv hu e1_ h7_), (Or.inr (Or.inr (Or.inr (Or.inr (Or.inl ⟨e1_, (Or.inr ⟨h7_, rfl⟩)⟩)))))⟩
  · refine w_tsIn (tgt := 61) (off := 60) dX12_hasOwn_1 e1_ (by decide) (by decide) rfl (by decide) ?_
    refine w_iload_n dX12_hasOwn_61 rfl 1 rfl ?_
    refine w_iconst (v := 1) dX12_hasOwn_62 (by decide) ?_
    refine w_icmp_ne (tgt := 70) dX12_hasOwn_63 (by decide) (rfl : u.toInt = u.toInt) li_1 (fun h8_ => ?_) (fun h8_ => ?_)
    · refine w_iconst (v := 0) dX12_hasOwn_70 (by decide) ?_
      exact w_zret rfl dX12_hasOwn_71 ⟨by decide, by decide⟩ ⟨rfl, (lf_c_X12_hasOwn_12 v u hv hu e1_ h8_), (Or.inr (Or.inr (Or.inr (Or.inr (Or.inr (Or.inl ⟨e1_, (Or.inl ⟨h8_, rfl⟩)⟩))))))⟩
    · refine w_iconst (v := 1) dX12_hasOwn_66 (by decide) ?_
      refine w_goto (tgt := 71) dX12_hasOwn_67 (by decide) ?_
      exact w_zret rfl dX12_hasOwn_71 ⟨by decide, by decide⟩ ⟨rfl, (lf_c_X12_hasOwn_13 v u hv hu e1_ h8_), (Or.inr (Or.inr (Or.inr (Or.inr (Or.inr (Or.inl ⟨e1_, (Or.inr ⟨h8_, rfl⟩)⟩))))))⟩
  · refine w_tsIn (tgt := 98) (off := 97) dX12_hasOwn_1 e1_ (by decide) (by decide) rfl (by decide) ?_
    refine w_iload_n dX12_hasOwn_98 rfl 1 rfl ?_
    refine w_iconst (v := 1) dX12_hasOwn_99 (by decide) ?_
    refine w_icmp_eq (tgt := 108) dX12_hasOwn_100 (by decide) (rfl : u.toInt = u.toInt) li_1 (fun h9_ => ?_) (fun h9_ => ?_)
    · refine w_iconst (v := 1) dX12_hasOwn_108 (by decide) ?_
      refine w_goto (tgt := 113) dX12_hasOwn_109 (by decide) ?_
      exact w_zret rfl dX12_hasOwn_113 ⟨by decide, by decide⟩ ⟨rfl, (lf_c_X12_hasOwn_14 v u hv hu e1_ h9_), (Or.inr (Or.inr (Or.inr (Or.inr (Or.inr (Or.inr (Or.inl ⟨e1_, (Or.inl ⟨h9_, rfl⟩)⟩)))))))⟩
    · refine w_iload_n dX12_hasOwn_103 rfl 1 rfl ?_
      refine w_iconst (v := 2) dX12_hasOwn_104 (by decide) ?_
      refine w_icmp_ne (tgt := 112) dX12_hasOwn_105 (by decide) (rfl : u.toInt = u.toInt) li_2 (fun h10_ => ?_) (fun h10_ => ?_)
      · refine w_iconst (v := 0) dX12_hasOwn_112 (by decide) ?_
        exact w_zret rfl dX12_hasOwn_113 ⟨by decide, by decide⟩ ⟨rfl, (lf_c_X12_hasOwn_15 v u hv hu e1_ h9_ h10_), (Or.inr (Or.inr (Or.inr (Or.inr (Or.inr (Or.inr (Or.inl ⟨e1_, (Or.inr ⟨h9_, (Or.inl ⟨h10_, rfl⟩)⟩)⟩)))))))⟩
      · refine w_iconst (v := 1) dX12_hasOwn_108 (by decide) ?_
        refine w_goto (tgt := 113) dX12_hasOwn_109 (by decide) ?_
        exact w_zret rfl dX12_hasOwn_113 ⟨by decide, by decide⟩ ⟨rfl, (lf_c_X12_hasOwn_16 v u hv hu e1_ h9_ h10_), (Or.inr (Or.inr (Or.inr (Or.inr (Or.inr (Or.inr (Or.inl ⟨e1_, (Or.inr ⟨h9_, (Or.inr ⟨h10_, rfl⟩)⟩)⟩)))))))⟩
  · refine w_tsOut (tgt := 114) dX12_hasOwn_1 rfl (lf_c_X12_hasOwn_17 v hv e1_) (by decide) ?_
    refine w_iload_n dX12_hasOwn_114 rfl 1 rfl ?_
    refine w_iconst (v := 3) dX12_hasOwn_115 (by decide) ?_
    refine w_icmp_ne (tgt := 123) dX12_hasOwn_116 (by decide) (rfl : u.toInt = u.toInt) li_3 (fun h11_ => ?_) (fun h11_ => ?_)
    · refine w_iconst (v := 0) dX12_hasOwn_123 (by decide) ?_
      exact w_zret rfl dX12_hasOwn_124 ⟨by decide, by decide⟩ ⟨rfl, (lf_c_X12_hasOwn_18 v u hv hu e1_ h11_), (Or.inr (Or.inr (Or.inr (Or.inr (Or.inr (Or.inr (Or.inr ⟨e1_, (Or.inl ⟨h11_, rfl⟩)⟩)))))))⟩
    · refine w_iconst (v := 1) dX12_hasOwn_119 (by decide) ?_
      refine w_goto (tgt := 124) dX12_hasOwn_120 (by decide) ?_
      exact w_zret rfl dX12_hasOwn_124 ⟨by decide, by decide⟩ ⟨rfl, (lf_c_X12_hasOwn_19 v u hv hu e1_ h11_), (Or.inr (Or.inr (Or.inr (Or.inr (Or.inr (Or.inr (Or.inr ⟨e1_, (Or.inr ⟨h11_, rfl⟩)⟩)))))))⟩
def SP_above2 (v : Int32) (Mz : mM) (r_ : Int32) : Prop := (((¬ v.toInt = 0) ∧ (((v.toInt = 5) ∧ r_ = 1) ∨ ((¬ v.toInt = 5) ∧ (((¬ v.toInt = 7) ∧ (((¬ v.toInt = 6) ∧ r_ = 0) ∨ ((v.toInt = 6) ∧ r_ = 3))) ∨ ((v.toInt = 7) ∧ r_ = 1))))) ∨ ((v.toInt = 0) ∧ r_ = (-1)))
theorem lf_c_above2_0  (v : Int32) (h1_ : ¬ v.toInt = 0) (h2_ : v.toInt = 5) : -1 ≤ (1 : Int32).toInt ∧ (1 : Int32).toInt ≤ 3 ∧ (0 ≤ v.toInt → (1 : Int32).toInt < v.toInt) ∧ (0 < v.toInt → 0 ≤ (1 : Int32).toInt) := by have r_v := rngI v; have r9 := li_1; omega
theorem lf_c_above2_1  (v : Int32) (h1_ : ¬ v.toInt = 0) (h2_ : ¬ v.toInt = 5) (h3_ : ¬ v.toInt = 7) (h4_ : ¬ v.toInt = 6) : -1 ≤ (0 : Int32).toInt ∧ (0 : Int32).toInt ≤ 3 ∧ (0 ≤ v.toInt → (0 : Int32).toInt < v.toInt) ∧ (0 < v.toInt → 0 ≤ (0 : Int32).toInt) := by have r_v := rngI v; have r9 := li_0; omega
theorem lf_c_above2_2  (v : Int32) (h1_ : ¬ v.toInt = 0) (h2_ : ¬ v.toInt = 5) (h3_ : ¬ v.toInt = 7) (h4_ : v.toInt = 6) : -1 ≤ (3 : Int32).toInt ∧ (3 : Int32).toInt ≤ 3 ∧ (0 ≤ v.toInt → (3 : Int32).toInt < v.toInt) ∧ (0 < v.toInt → 0 ≤ (3 : Int32).toInt) := by have r_v := rngI v; have r9 := li_3; omega
theorem lf_c_above2_3  (v : Int32) (h1_ : ¬ v.toInt = 0) (h2_ : ¬ v.toInt = 5) (h3_ : v.toInt = 7) : -1 ≤ (1 : Int32).toInt ∧ (1 : Int32).toInt ≤ 3 ∧ (0 ≤ v.toInt → (1 : Int32).toInt < v.toInt) ∧ (0 < v.toInt → 0 ≤ (1 : Int32).toInt) := by have r_v := rngI v; have r9 := li_1; omega
theorem lf_c_above2_4  (v : Int32) (h1_ : v.toInt = 0) : -1 ≤ ((-1) : Int32).toInt ∧ ((-1) : Int32).toInt ≤ 3 ∧ (0 ≤ v.toInt → ((-1) : Int32).toInt < v.toInt) ∧ (0 < v.toInt → 0 ≤ ((-1) : Int32).toInt) := by have r_v := rngI v; have r9 := li_m1; omega
set_option maxHeartbeats 4000000 in
set_option maxRecDepth 100000 in
theorem c_above2 (l : Launch) (G : va_G) (cy : Nat → ClassId) (ad : rf → Nat) (d : Nat) (v : Int32) (Mz : mM) (hIz : InvD Mz) : WP DD l G cy ad yX12_above cX12_above 1 (some .int) d 0 [(0, vI v)] [] Mz (fun r M' => Mz = M' ∧ (-1 ≤ r.toInt ∧ r.toInt ≤ 3 ∧ (0 ≤ v.toInt → r.toInt < v.toInt) ∧ (0 < v.toInt → 0 ≤ r.toInt)) ∧ SP_above2 v Mz r) := by
  refine w_iload_n dX12_above_0 rfl 0 rfl ?_
  refine w_if_ne (tgt := 8) dX12_above_1 (by decide) (rfl : v.toInt = v.toInt) (fun h1_ => ?_) (fun h1_ => ?_)
  · refine w_iload_n dX12_above_8 rfl 0 rfl ?_
    refine w_iconst (v := 5) dX12_above_9 (by decide) ?_
    refine w_icmp_eq (tgt := 19) dX12_above_10 (by decide) (rfl : v.toInt = v.toInt) li_5 (fun h2_ => ?_) (fun h2_ => ?_)
    · refine w_iconst (v := 1) dX12_above_19 (by decide) ?_
      refine w_goto (tgt := 34) dX12_above_20 (by decide) ?_
      exact w_iret rfl dX12_above_34 ⟨rfl, (lf_c_above2_0 v h1_ h2_), (Or.inl ⟨h1_, (Or.inl ⟨h2_, rfl⟩)⟩)⟩
    · refine w_iload_n dX12_above_13 rfl 0 rfl ?_
      refine w_bipush (v := 7) dX12_above_14 (by decide) ?_
      refine w_icmp_ne (tgt := 23) dX12_above_16 (by decide) (rfl : v.toInt = v.toInt) li_7 (fun h3_ => ?_) (fun h3_ => ?_)
      · refine w_iload_n dX12_above_23 rfl 0 rfl ?_
        refine w_bipush (v := 6) dX12_above_24 (by decide) ?_
        refine w_icmp_ne (tgt := 33) dX12_above_26 (by decide) (rfl : v.toInt = v.toInt) li_6 (fun h4_ => ?_) (fun h4_ => ?_)
        · refine w_iconst (v := 0) dX12_above_33 (by decide) ?_
          exact w_iret rfl dX12_above_34 ⟨rfl, (lf_c_above2_1 v h1_ h2_ h3_ h4_), (Or.inl ⟨h1_, (Or.inr ⟨h2_, (Or.inl ⟨h3_, (Or.inl ⟨h4_, rfl⟩)⟩)⟩)⟩)⟩
        · refine w_iconst (v := 3) dX12_above_29 (by decide) ?_
          refine w_goto (tgt := 34) dX12_above_30 (by decide) ?_
          exact w_iret rfl dX12_above_34 ⟨rfl, (lf_c_above2_2 v h1_ h2_ h3_ h4_), (Or.inl ⟨h1_, (Or.inr ⟨h2_, (Or.inl ⟨h3_, (Or.inr ⟨h4_, rfl⟩)⟩)⟩)⟩)⟩
      · refine w_iconst (v := 1) dX12_above_19 (by decide) ?_
        refine w_goto (tgt := 34) dX12_above_20 (by decide) ?_
        exact w_iret rfl dX12_above_34 ⟨rfl, (lf_c_above2_3 v h1_ h2_ h3_), (Or.inl ⟨h1_, (Or.inr ⟨h2_, (Or.inr ⟨h3_, rfl⟩)⟩)⟩)⟩
  · refine w_iconst (v := (-1)) dX12_above_4 (by decide) ?_
    refine w_goto (tgt := 34) dX12_above_5 (by decide) ?_
    exact w_iret rfl dX12_above_34 ⟨rfl, (lf_c_above2_4 v h1_), (Or.inr ⟨h1_, rfl⟩)⟩
