section WPV
variable {cls : List rf} {l : Launch} {G : va_G} {cy : Nat → ClassId} {ad : rf → Nat} {y : MethodName} {b : ByteArray} {n : Nat} {r : Option FieldType} {d : Nat} {pc : Nat} {ls : List (Nat × mV)} {st : List mV} {M : mM} {Q : Int32 → mM → Prop}
theorem w_alenT {k : Nat} {q : String × String × List Int32} {v : Int32} (hk : STs[k]? = some q) (hd : decode b pc = .ok (.arraylength, 1)) (hv : Int32.ofNat q.2.2.length = v) (kk : WP cls l G cy ad y b n r d (pc + 1) ls (vI v :: st) M Q) : WP cls l G cy ad y b n r d pc ls (vR (90, k, 0) :: st) M Q := by
  intro p e s m args below meth c A X lsA H locs hl hP hS
  have kk := kk p e s m args below meth c A X lsA H locs hl hP hS
  obtain ⟨hx1, hb, hr, hml, hts, hown, hlk, hE, hT, hA⟩ := X
  exact va_tlen hx1 hb (hT.1 k _ hk).2 hS hv hd kk
theorem w_dep {d1 d2 : Nat} (h : d1 = d2) (kk : WP cls l G cy ad y b n r d1 pc ls st M Q) : WP cls l G cy ad y b n r d2 pc ls st M Q := h ▸ kk
end WPV
def S_voice : rf → Nat → Prop := fun c k => (c.1 = 5 ∧ c.2.1 = 3 ∧ c.2.2 = 4 ∧ k = 1) ∨ (c.1 = 33 ∧ c.2.1 = 3 ∧ c.2.2 = 4) ∨ (c.1 = 8 ∧ c.2.1 = 0 ∧ k = 5) ∨ False
theorem bodies_in : ∀ j, j < 32 → (let z := (([10, 11, 12, 13, 20, 0, 0, 21, 0, 30, 0, 0, 40, 0, 41, 0, 0, 0, 50, 0, 0, 60, 0, 0, 0, 70, 71, 0, 0, 0, 0, 80] : List Int32).getD j 0); z.toInt = 0 ∨ z.toInt = 10 ∨ z.toInt = 11 ∨ z.toInt = 12 ∨ z.toInt = 13 ∨ z.toInt = 20 ∨ z.toInt = 21 ∨ z.toInt = 30 ∨ z.toInt = 40 ∨ z.toInt = 41 ∨ z.toInt = 50 ∨ z.toInt = 60 ∨ z.toInt = 70 ∨ z.toInt = 71 ∨ z.toInt = 80) := by decide +kernel
def SAYC (l : Launch) (G : va_G) (cy : Nat → ClassId) (ad : rf → Nat) (N m : Nat) : Prop := ∀ (d : Nat) (v u t s : Int32) (Mz : mM) (hIz : Inv Mz) (hdp : s.toInt + ((m : Nat) : Int) = 30) (hd0 : 0 ≤ s.toInt ∧ s.toInt ≤ 30), WP CC l G cy ad yX8_say cX8_say 9 (some .int) (N + d) 0 [(0, vR (8, 0, 0)), (1, vI v), (2, vI u), (3, vI t), (4, vI s)] [] Mz (fun r M' => Inv M' ∧ FR (S_voice) Mz M' ∧ True)
def RUNC (l : Launch) (G : va_G) (cy : Nat → ClassId) (ad : rf → Nat) (N m : Nat) : Prop := ∀ (d : Nat) (v u t : Int32) (Mz : mM) (hIz : Inv Mz) (hdp : t.toInt + ((m : Nat) : Int) = 30) (hd0 : 0 ≤ t.toInt ∧ t.toInt ≤ 30) (hbo : v.toInt = 10 ∨ v.toInt = 11 ∨ v.toInt = 12 ∨ v.toInt = 13 ∨ v.toInt = 20 ∨ v.toInt = 21 ∨ v.toInt = 30 ∨ v.toInt = 40 ∨ v.toInt = 41 ∨ v.toInt = 50 ∨ v.toInt = 60 ∨ v.toInt = 70 ∨ v.toInt = 71 ∨ v.toInt = 80), WP CC l G cy ad yX8_run cX8_run 5 (some .int) (N + d) 0 [(0, vR (8, 0, 0)), (1, vI v), (2, vI u), (3, vI t)] [] Mz (fun r M' => Inv M' ∧ FR (S_voice) Mz M' ∧ True)
theorem lf_c_X8_say_0  (v6_6 : Int32) (hv0_6 : 0 ≤ v6_6.toInt) (hv1_6 : v6_6.toInt ≤ 8) (h2_ : v6_6.toInt < 8) : -2147483648 ≤ v6_6.toInt + 1 ∧ v6_6.toInt + 1 < 2147483648 := by have r_v6_6 := rngI v6_6; omega
theorem lf_c_X8_say_1  (v6_6 : Int32) (z15_ : Int32) (hv0_6 : 0 ≤ v6_6.toInt) (hv1_6 : v6_6.toInt ≤ 8) (h2_ : v6_6.toInt < 8) (h16_ : z15_.toInt = v6_6.toInt + 1) : 0 ≤ z15_.toInt := by have r_v6_6 := rngI v6_6; have r_z15_ := rngI z15_; omega
theorem lf_c_X8_say_2  (v6_6 : Int32) (z15_ : Int32) (hv0_6 : 0 ≤ v6_6.toInt) (hv1_6 : v6_6.toInt ≤ 8) (h2_ : v6_6.toInt < 8) (h16_ : z15_.toInt = v6_6.toInt + 1) : z15_.toInt ≤ 8 := by have r_v6_6 := rngI v6_6; have r_z15_ := rngI z15_; omega
theorem lf_c_X8_say_3  (v6_6 : Int32) (z15_ : Int32) (hv0_6 : 0 ≤ v6_6.toInt) (hv1_6 : v6_6.toInt ≤ 8) (h2_ : v6_6.toInt < 8) (h16_ : z15_.toInt = v6_6.toInt + 1) : (2147483648 - z15_.toInt).toNat < (2147483648 - v6_6.toInt).toNat := by have r_v6_6 := rngI v6_6; have r_z15_ := rngI z15_; omega
theorem lf_c_X8_say_4  (v6_6 : Int32) (hv0_6 : 0 ≤ v6_6.toInt) (hv1_6 : v6_6.toInt ≤ 8) (h2_ : v6_6.toInt < 8) : -2147483648 ≤ v6_6.toInt + 1 ∧ v6_6.toInt + 1 < 2147483648 := by have r_v6_6 := rngI v6_6; omega
theorem lf_c_X8_say_5  (v6_6 : Int32) (z24_ : Int32) (hv0_6 : 0 ≤ v6_6.toInt) (hv1_6 : v6_6.toInt ≤ 8) (h2_ : v6_6.toInt < 8) (h25_ : z24_.toInt = v6_6.toInt + 1) : 0 ≤ z24_.toInt := by have r_v6_6 := rngI v6_6; have r_z24_ := rngI z24_; omega
theorem lf_c_X8_say_6  (v6_6 : Int32) (z24_ : Int32) (hv0_6 : 0 ≤ v6_6.toInt) (hv1_6 : v6_6.toInt ≤ 8) (h2_ : v6_6.toInt < 8) (h25_ : z24_.toInt = v6_6.toInt + 1) : z24_.toInt ≤ 8 := by have r_v6_6 := rngI v6_6; have r_z24_ := rngI z24_; omega
theorem lf_c_X8_say_7  (v6_6 : Int32) (z24_ : Int32) (hv0_6 : 0 ≤ v6_6.toInt) (hv1_6 : v6_6.toInt ≤ 8) (h2_ : v6_6.toInt < 8) (h25_ : z24_.toInt = v6_6.toInt + 1) : (2147483648 - z24_.toInt).toNat < (2147483648 - v6_6.toInt).toNat := by have r_v6_6 := rngI v6_6; have r_z24_ := rngI z24_; omega
theorem lf_c_X8_say_8  (z6_ : Int32) (h8_ : 0 ≤ z6_.toInt) (h17_ : z6_.toInt < 32) : 0 ≤ z6_.toInt ∧ z6_.toInt < ((32 : Nat) : Int) := by have r_z6_ := rngI z6_; omega
theorem lf_c_X8_say_9  (z6_ : Int32) (j28_ : Nat) (h8_ : 0 ≤ z6_.toInt) (h17_ : z6_.toInt < 32) (h29_ : (j28_ : Int) = z6_.toInt) : j28_ < 32 := by have r_z6_ := rngI z6_; omega
theorem lf_c_X8_say_10  (v6_6 : Int32) (hv0_6 : 0 ≤ v6_6.toInt) (hv1_6 : v6_6.toInt ≤ 8) (h2_ : v6_6.toInt < 8) : -2147483648 ≤ v6_6.toInt + 1 ∧ v6_6.toInt + 1 < 2147483648 := by have r_v6_6 := rngI v6_6; omega
theorem lf_c_X8_say_11  (v6_6 : Int32) (z37_ : Int32) (hv0_6 : 0 ≤ v6_6.toInt) (hv1_6 : v6_6.toInt ≤ 8) (h2_ : v6_6.toInt < 8) (h38_ : z37_.toInt = v6_6.toInt + 1) : 0 ≤ z37_.toInt := by have r_v6_6 := rngI v6_6; have r_z37_ := rngI z37_; omega
theorem lf_c_X8_say_12  (v6_6 : Int32) (z37_ : Int32) (hv0_6 : 0 ≤ v6_6.toInt) (hv1_6 : v6_6.toInt ≤ 8) (h2_ : v6_6.toInt < 8) (h38_ : z37_.toInt = v6_6.toInt + 1) : z37_.toInt ≤ 8 := by have r_v6_6 := rngI v6_6; have r_z37_ := rngI z37_; omega
theorem lf_c_X8_say_13  (v6_6 : Int32) (z37_ : Int32) (hv0_6 : 0 ≤ v6_6.toInt) (hv1_6 : v6_6.toInt ≤ 8) (h2_ : v6_6.toInt < 8) (h38_ : z37_.toInt = v6_6.toInt + 1) : (2147483648 - z37_.toInt).toNat < (2147483648 - v6_6.toInt).toNat := by have r_v6_6 := rngI v6_6; have r_z37_ := rngI z37_; omega
theorem lf_c_X8_say_14  (m : Nat) (s : Int32) (hdp : s.toInt + ((m : Nat) : Int) = 30) (hd0 : 0 ≤ s.toInt ∧ s.toInt ≤ 30) (h39_ : s.toInt < 30) : -2147483648 ≤ s.toInt + 1 ∧ s.toInt + 1 < 2147483648 := by have r_s := rngI s; omega
theorem lf_c_X8_say_15  (m : Nat) (s : Int32) (z40_ : Int32) (hdp : s.toInt + ((m : Nat) : Int) = 30) (hd0 : 0 ≤ s.toInt ∧ s.toInt ≤ 30) (h39_ : s.toInt < 30) (h41_ : z40_.toInt = s.toInt + 1) : z40_.toInt + (((m - 1) : Nat) : Int) = 30 := by have r_s := rngI s; have r_z40_ := rngI z40_; omega
theorem lf_c_X8_say_16  (m : Nat) (s : Int32) (z40_ : Int32) (hdp : s.toInt + ((m : Nat) : Int) = 30) (hd0 : 0 ≤ s.toInt ∧ s.toInt ≤ 30) (h39_ : s.toInt < 30) (h41_ : z40_.toInt = s.toInt + 1) : 0 ≤ z40_.toInt ∧ z40_.toInt ≤ 30 := by have r_s := rngI s; have r_z40_ := rngI z40_; omega
theorem lf_c_X8_say_17  (z26_ : Int32) (h30_ : z26_.toInt = 0 ∨ z26_.toInt = 10 ∨ z26_.toInt = 11 ∨ z26_.toInt = 12 ∨ z26_.toInt = 13 ∨ z26_.toInt = 20 ∨ z26_.toInt = 21 ∨ z26_.toInt = 30 ∨ z26_.toInt = 40 ∨ z26_.toInt = 41 ∨ z26_.toInt = 50 ∨ z26_.toInt = 60 ∨ z26_.toInt = 70 ∨ z26_.toInt = 71 ∨ z26_.toInt = 80) (h31_ : ¬ z26_.toInt = 0) : z26_.toInt = 10 ∨ z26_.toInt = 11 ∨ z26_.toInt = 12 ∨ z26_.toInt = 13 ∨ z26_.toInt = 20 ∨ z26_.toInt = 21 ∨ z26_.toInt = 30 ∨ z26_.toInt = 40 ∨ z26_.toInt = 41 ∨ z26_.toInt = 50 ∨ z26_.toInt = 60 ∨ z26_.toInt = 70 ∨ z26_.toInt = 71 ∨ z26_.toInt = 80 := by have r_z26_ := rngI z26_; omega
theorem lf_c_X8_say_18  (m : Nat) (s : Int32) (z40_ : Int32) (hdp : s.toInt + ((m : Nat) : Int) = 30) (hd0 : 0 ≤ s.toInt ∧ s.toInt ≤ 30) (h39_ : s.toInt < 30) (h41_ : z40_.toInt = s.toInt + 1) : m - 1 + 1 = m := by have r_s := rngI s; have r_z40_ := rngI z40_; omega
theorem lf_c_X8_say_19    : 0 ≤ (0 : Int32).toInt := by have q0 := li_0; omega
theorem lf_c_X8_say_20    : (0 : Int32).toInt ≤ 8 := by have q0 := li_0; omega
set_option maxHeartbeats 4000000 in
set_option maxRecDepth 100000 in
theorem c_X8_say (l : Launch) (G : va_G) (cy : Nat → ClassId) (ad : rf → Nat) (d : Nat) (N : Nat) (m : Nat) (v : Int32) (u : Int32) (t : Int32) (s : Int32) (Mz : mM) (hIz : Inv Mz) (hR : ∀ k : Nat, k + 1 = m → RUNC l G cy ad N k) (hdp : s.toInt + ((m : Nat) : Int) = 30) (hd0 : 0 ≤ s.toInt ∧ s.toInt ≤ 30) : WP CC l G cy ad yX8_say cX8_say 9 (some .int) ((N + d) + 1) 0 [(0, vR (8, 0, 0)), (1, vI v), (2, vI u), (3, vI t), (4, vI s)] [] Mz (fun r M' => Inv M' ∧ FR (S_voice) Mz M' ∧ True) := by
  have hFz : FR (S_voice) Mz Mz := FR.self
  refine w_iload_n dX8_say_0 rfl 1 rfl ?_
  refine w_istore (ls' := [(5, vI v), (0, vR (8, 0, 0)), (1, vI v), (2, vI u), (3, vI t), (4, vI s)]) dX8_say_1 (by decide) rfl ?_
  refine w_iconst (v := 0) dX8_say_3 (by decide) ?_
  refine w_istore (ls' := [(6, vI 0), (5, vI v), (0, vR (8, 0, 0)), (1, vI v), (2, vI u), (3, vI t), (4, vI s)]) dX8_say_4 (by decide) rfl ?_
  have lp1_ : ∀ (nn_6 : Nat) (M_6 : mM) (hI_6 : Inv M_6) (hF_6 : FR (S_voice) Mz M_6) (v6_6 : Int32) (v5_6 : Int32) (hv0_6 : 0 ≤ v6_6.toInt) (hv1_6 : v6_6.toInt ≤ 8), (2147483648 - v6_6.toInt).toNat < nn_6 → WP CC l G cy ad yX8_say cX8_say 9 (some .int) ((N + d) + 1) 6 [(6, vI v6_6), (5, vI v5_6), (0, vR (8, 0, 0)), (1, vI v), (2, vI u), (3, vI t), (4, vI s)] [] M_6 (fun r M' => Inv M' ∧ FR (S_voice) Mz M' ∧ True) := by
    intro nn_6
    induction nn_6 with
    | zero => intro M_6 hI_6 hF_6 v6_6 v5_6 hv0_6 hv1_6 hm_6; exact absurd hm_6 (Nat.not_lt_zero _)
    | succ nn_6 ih_6 =>
      intro M_6 hI_6 hF_6 v6_6 v5_6 hv0_6 hv1_6 hm_6
      refine w_iload dX8_say_6 0 rfl ?_
      refine w_bipush (v := 8) dX8_say_8 (by decide) ?_
      refine w_icmp_ge (tgt := 93) dX8_say_10 (by decide) (rfl : v6_6.toInt = v6_6.toInt) li_8 (fun h2_ => ?_) (fun h2_ => ?_)
      · refine w_iconst (v := 0) dX8_say_93 (by decide) ?_
        exact w_iret rfl dX8_say_94 ⟨hI_6, hF_6, trivial⟩
      · refine w_iload dX8_say_13 1 rfl ?_
        refine w_if_lt (tgt := 93) dX8_say_15 (by decide) (rfl : v5_6.toInt = v5_6.toInt) (fun h3_ => ?_) (fun h3_ => ?_)
        · refine w_iconst (v := 0) dX8_say_93 (by decide) ?_
          exact w_iret rfl dX8_say_94 ⟨hI_6, hF_6, trivial⟩
        · refine w_iconst (v := 4) dX8_say_18 (by decide) ?_
          refine w_iload dX8_say_19 1 rfl ?_
          refine w_imul dX8_say_21 (fun z4_ h5_ => ?_)
          refine w_iload_n dX8_say_22 rfl 4 rfl ?_
          refine w_iadd dX8_say_23 (fun z6_ h7_ => ?_)
          refine w_istore (ls' := [(7, vI z6_), (6, vI v6_6), (5, vI v5_6), (0, vR (8, 0, 0)), (1, vI v), (2, vI u), (3, vI t), (4, vI s)]) dX8_say_24 (by decide) rfl ?_
          refine w_iload dX8_say_26 0 rfl ?_
          refine w_if_lt (tgt := 49) dX8_say_28 (by decide) (rfl : z6_.toInt = z6_.toInt) (fun h8_ => ?_) (fun h8_ => ?_)
          · refine w_iconst (v := 0) dX8_say_49 (by decide) ?_
            refine w_istore (ls' := [(8, vI 0), (7, vI z6_), (6, vI v6_6), (5, vI v5_6), (0, vR (8, 0, 0)), (1, vI v), (2, vI u), (3, vI t), (4, vI s)]) dX8_say_50 (by decide) rfl ?_
            refine w_iload dX8_say_52 0 rfl ?_
            refine w_if_eq (tgt := 80) dX8_say_54 (by decide) li_0 (fun h9_ => ?_) (fun h9 => (absurd h9 (by decide)))
            refine w_iload dX8_say_80 3 rfl ?_
            refine w_callS (as := [vI v5_6]) (rest := []) (c_X9_kindAbove l G cy ad (N + d) v5_6 M_6 hI_6) kS_X9_kindAbove (by decide +kernel) (Nat.le_of_ble_eq_true rfl) m_1196 rfl rfl (by decide) (Nat.le_of_ble_eq_true rfl) dX8_say_82 (fun r10_ M11_ q12_ => ?_)
            obtain ⟨rfl, h13_, hs14_⟩ := q12_
            refine w_istore (ls' := [(5, vI r10_), (8, vI 0), (7, vI z6_), (6, vI v6_6), (0, vR (8, 0, 0)), (1, vI v), (2, vI u), (3, vI t), (4, vI s)]) dX8_say_85 (by decide) rfl ?_
            refine w_iincB (j := 3) (f := fun z15_ => [(6, vI z15_), (5, vI r10_), (8, vI 0), (7, vI z6_), (0, vR (8, 0, 0)), (1, vI v), (2, vI u), (3, vI t), (4, vI s)]) dX8_say_87 rfl (by decide) (fun _ => rfl) (rfl : v6_6.toInt = v6_6.toInt) li_1 (lf_c_X8_say_0 v6_6 hv0_6 hv1_6 h2_) (fun z15_ h16_ => ?_)
            refine w_goto (tgt := 6) dX8_say_90 (by decide) ?_
            refine w_loc (ls' := [(6, vI z15_), (5, vI r10_), (0, vR (8, 0, 0)), (1, vI v), (2, vI u), (3, vI t), (4, vI s)]) [0, 1, 4, 5, 6, 7, 8] rfl ?_
            exact ih_6 M_6 hI_6 hF_6 z15_ r10_ (lf_c_X8_say_1 v6_6 z15_ hv0_6 hv1_6 h2_ h16_) (lf_c_X8_say_2 v6_6 z15_ hv0_6 hv1_6 h2_ h16_) (Nat.lt_of_lt_of_le (lf_c_X8_say_3 v6_6 z15_ hv0_6 hv1_6 h2_ h16_) (Nat.le_of_lt_succ hm_6))
          · refine w_iload dX8_say_31 0 rfl ?_
            refine w_gets (k := 6) rfl m_1189 dX8_say_33 ?_
            refine w_alenT (k := 6) (v := 32) rfl dX8_say_36 rfl ?_
            refine w_icmp_ge (tgt := 49) dX8_say_37 (by decide) (rfl : z6_.toInt = z6_.toInt) li_32 (fun h17_ => ?_) (fun h17_ => ?_)
            · refine w_iconst (v := 0) dX8_say_49 (by decide) ?_
              refine w_istore (ls' := [(8, vI 0), (7, vI z6_), (6, vI v6_6), (5, vI v5_6), (0, vR (8, 0, 0)), (1, vI v), (2, vI u), (3, vI t), (4, vI s)]) dX8_say_50 (by decide) rfl ?_
              refine w_iload dX8_say_52 0 rfl ?_
              refine w_if_eq (tgt := 80) dX8_say_54 (by decide) li_0 (fun h18_ => ?_) (fun h9 => (absurd h9 (by decide)))
              refine w_iload dX8_say_80 3 rfl ?_
              refine w_callS (as := [vI v5_6]) (rest := []) (c_X9_kindAbove l G cy ad (N + d) v5_6 M_6 hI_6) kS_X9_kindAbove (by decide +kernel) (Nat.le_of_ble_eq_true rfl) m_1196 rfl rfl (by decide) (Nat.le_of_ble_eq_true rfl) dX8_say_82 (fun r19_ M20_ q21_ => ?_)
              obtain ⟨rfl, h22_, hs23_⟩ := q21_
              refine w_istore (ls' := [(5, vI r19_), (8, vI 0), (7, vI z6_), (6, vI v6_6), (0, vR (8, 0, 0)), (1, vI v), (2, vI u), (3, vI t), (4, vI s)]) dX8_say_85 (by decide) rfl ?_
              refine w_iincB (j := 3) (f := fun z24_ => [(6, vI z24_), (5, vI r19_), (8, vI 0), (7, vI z6_), (0, vR (8, 0, 0)), (1, vI v), (2, vI u), (3, vI t), (4, vI s)]) dX8_say_87 rfl (by decide) (fun _ => rfl) (rfl : v6_6.toInt = v6_6.toInt) li_1 (lf_c_X8_say_4 v6_6 hv0_6 hv1_6 h2_) (fun z24_ h25_ => ?_)
              refine w_goto (tgt := 6) dX8_say_90 (by decide) ?_
              refine w_loc (ls' := [(6, vI z24_), (5, vI r19_), (0, vR (8, 0, 0)), (1, vI v), (2, vI u), (3, vI t), (4, vI s)]) [0, 1, 4, 5, 6, 7, 8] rfl ?_
              exact ih_6 M_6 hI_6 hF_6 z24_ r19_ (lf_c_X8_say_5 v6_6 z24_ hv0_6 hv1_6 h2_ h25_) (lf_c_X8_say_6 v6_6 z24_ hv0_6 hv1_6 h2_ h25_) (Nat.lt_of_lt_of_le (lf_c_X8_say_7 v6_6 z24_ hv0_6 hv1_6 h2_ h25_) (Nat.le_of_lt_succ hm_6))
            · refine w_gets (k := 6) rfl m_1189 dX8_say_40 ?_
              refine w_iload dX8_say_43 0 rfl ?_
              refine w_iaT (k := 6) rfl (rfl : z6_.toInt = z6_.toInt) (lf_c_X8_say_8 z6_ h8_ h17_) dX8_say_45 (fun j28_ h29_ z26_ e27_ => ?_)
              have h30_ : z26_.toInt = 0 ∨ z26_.toInt = 10 ∨ z26_.toInt = 11 ∨ z26_.toInt = 12 ∨ z26_.toInt = 13 ∨ z26_.toInt = 20 ∨ z26_.toInt = 21 ∨ z26_.toInt = 30 ∨ z26_.toInt = 40 ∨ z26_.toInt = 41 ∨ z26_.toInt = 50 ∨ z26_.toInt = 60 ∨ z26_.toInt = 70 ∨ z26_.toInt = 71 ∨ z26_.toInt = 80 := by rw [e27_]; exact bodies_in j28_ (lf_c_X8_say_9 z6_ j28_ h8_ h17_ h29_)
              refine w_goto (tgt := 50) dX8_say_46 (by decide) ?_
              refine w_istore (ls' := [(8, vI z26_), (7, vI z6_), (6, vI v6_6), (5, vI v5_6), (0, vR (8, 0, 0)), (1, vI v), (2, vI u), (3, vI t), (4, vI s)]) dX8_say_50 (by decide) rfl ?_
              refine w_iload dX8_say_52 0 rfl ?_
              refine w_if_eq (tgt := 80) dX8_say_54 (by decide) (rfl : z26_.toInt = z26_.toInt) (fun h31_ => ?_) (fun h31_ => ?_)
              · refine w_iload dX8_say_80 3 rfl ?_
                refine w_callS (as := [vI v5_6]) (rest := []) (c_X9_kindAbove l G cy ad (N + d) v5_6 M_6 hI_6) kS_X9_kindAbove (by decide +kernel) (Nat.le_of_ble_eq_true rfl) m_1196 rfl rfl (by decide) (Nat.le_of_ble_eq_true rfl) dX8_say_82 (fun r32_ M33_ q34_ => ?_)
                obtain ⟨rfl, h35_, hs36_⟩ := q34_
                refine w_istore (ls' := [(5, vI r32_), (8, vI z26_), (7, vI z6_), (6, vI v6_6), (0, vR (8, 0, 0)), (1, vI v), (2, vI u), (3, vI t), (4, vI s)]) dX8_say_85 (by decide) rfl ?_
                refine w_iincB (j := 3) (f := fun z37_ => [(6, vI z37_), (5, vI r32_), (8, vI z26_), (7, vI z6_), (0, vR (8, 0, 0)), (1, vI v), (2, vI u), (3, vI t), (4, vI s)]) dX8_say_87 rfl (by decide) (fun _ => rfl) (rfl : v6_6.toInt = v6_6.toInt) li_1 (lf_c_X8_say_10 v6_6 hv0_6 hv1_6 h2_) (fun z37_ h38_ => ?_)
                refine w_goto (tgt := 6) dX8_say_90 (by decide) ?_
                refine w_loc (ls' := [(6, vI z37_), (5, vI r32_), (0, vR (8, 0, 0)), (1, vI v), (2, vI u), (3, vI t), (4, vI s)]) [0, 1, 4, 5, 6, 7, 8] rfl ?_
                exact ih_6 M_6 hI_6 hF_6 z37_ r32_ (lf_c_X8_say_11 v6_6 z37_ hv0_6 hv1_6 h2_ h38_) (lf_c_X8_say_12 v6_6 z37_ hv0_6 hv1_6 h2_ h38_) (Nat.lt_of_lt_of_le (lf_c_X8_say_13 v6_6 z37_ hv0_6 hv1_6 h2_ h38_) (Nat.le_of_lt_succ hm_6))
              · refine w_iload dX8_say_57 8 rfl ?_
                refine w_bipush (v := 30) dX8_say_59 (by decide) ?_
                refine w_icmp_ge (tgt := 78) dX8_say_61 (by decide) (rfl : s.toInt = s.toInt) li_30 (fun h39_ => ?_) (fun h39_ => ?_)
                · refine w_iconst (v := 0) dX8_say_78 (by decide) ?_
                  exact w_iret rfl dX8_say_79 ⟨hI_6, hF_6, trivial⟩
                · refine w_aload_n dX8_say_64 rfl 4 rfl ?_
                  refine w_iload dX8_say_65 0 rfl ?_
                  refine w_iload_n dX8_say_67 rfl 7 rfl ?_
                  refine w_iload dX8_say_68 8 rfl ?_
                  refine w_iconst (v := 1) dX8_say_70 (by decide) ?_
                  refine w_iaddB dX8_say_71 (rfl : s.toInt = s.toInt) li_1 (lf_c_X8_say_14 m s hdp hd0 h39_) (fun z40_ h41_ => ?_)
                  refine w_callV (as := [vI z26_, vI t, vI z40_]) (rest := []) (hR (m - 1) (lf_c_X8_say_18 m s z40_ hdp hd0 h39_ h41_) d z26_ t z40_ M_6 hI_6 (lf_c_X8_say_15 m s z40_ hdp hd0 h39_ h41_) (lf_c_X8_say_16 m s z40_ hdp hd0 h39_ h41_) (lf_c_X8_say_17 z26_ h30_ h31_)) kV_X8_run (by decide +kernel) (Nat.le_of_ble_eq_true rfl) m_1191 rfl rfl rfl ic_8 rfl rfl (by decide) (Nat.le_of_ble_eq_true rfl) dX8_say_72 (fun r42_ M43_ q44_ => ?_)
                  obtain ⟨hI46_, hF47_, h45_⟩ := q44_
                  have hF48_ := hF_6.tr hF47_ (fun c k => (fun h => h.elim (fun h => (Or.inl ⟨h.1, h.2.1, h.2.2.1, h.2.2.2⟩)) (fun h => h.elim (fun h => (Or.inr (Or.inl ⟨h.1, h.2.1, h.2.2⟩))) (fun h => h.elim (fun h => (Or.inr (Or.inr (Or.inl ⟨h.1, h.2.1, h.2.2⟩)))) (fun h => h.elim)))))
                  refine w_goto (tgt := 79) dX8_say_75 (by decide) ?_
                  exact w_iret rfl dX8_say_79 ⟨hI46_, hF48_, trivial⟩
  exact lp1_ _ Mz hIz hFz 0 v (lf_c_X8_say_19 ) (lf_c_X8_say_20 ) (Nat.lt_succ_self _)
set_option maxHeartbeats 4000000 in
set_option maxRecDepth 100000 in
theorem c_X8_own (l : Launch) (G : va_G) (cy : Nat → ClassId) (ad : rf → Nat) (d : Nat) (N : Nat) (m : Nat) (v : Int32) (u : Int32) (t : Int32) (Mz : mM) (hIz : Inv Mz) (hS : SAYC l G cy ad N m) (hdp : t.toInt + ((m : Nat) : Int) = 30) (hd0 : 0 ≤ t.toInt ∧ t.toInt ≤ 30) : WP CC l G cy ad yX8_own cX8_own 4 (some .int) ((N + d) + 1) 0 [(0, vR (8, 0, 0)), (1, vI v), (2, vI u), (3, vI t)] [] Mz (fun r M' => Inv M' ∧ FR (S_voice) Mz M' ∧ True) := by
  have hFz : FR (S_voice) Mz Mz := FR.self
  refine w_aload_n dX8_own_0 rfl 0 rfl ?_
  refine w_aload_n dX8_own_1 rfl 0 rfl ?_
  refine w_getI fl_RX8_21 rfl rfl ic_8 dX8_own_2 (fun z1_ e2_ => ?_)
  refine w_iload_n dX8_own_5 rfl 1 rfl ?_
  refine w_iload_n dX8_own_6 rfl 2 rfl ?_
  refine w_iload_n dX8_own_7 rfl 3 rfl ?_
  refine w_callV (as := [vI z1_, vI v, vI u, vI t]) (rest := []) (hS d z1_ v u t Mz hIz hdp hd0) kV_X8_say (by decide +kernel) (Nat.le_of_ble_eq_true rfl) m_1185 rfl rfl rfl ic_8 rfl rfl (by decide) (Nat.le_of_ble_eq_true rfl) dX8_own_8 (fun r3_ M4_ q5_ => ?_)
  obtain ⟨hI7_, hF8_, h6_⟩ := q5_
  have hF9_ := hFz.tr hF8_ (fun c k => (fun h => h.elim (fun h => (Or.inl ⟨h.1, h.2.1, h.2.2.1, h.2.2.2⟩)) (fun h => h.elim (fun h => (Or.inr (Or.inl ⟨h.1, h.2.1, h.2.2⟩))) (fun h => h.elim (fun h => (Or.inr (Or.inr (Or.inl ⟨h.1, h.2.1, h.2.2⟩)))) (fun h => h.elim)))))
  exact w_iret rfl dX8_own_11 ⟨hI7_, hF9_, trivial⟩
theorem lf_c_X8_run_0  (v : Int32) (hbo : v.toInt = 10 ∨ v.toInt = 11 ∨ v.toInt = 12 ∨ v.toInt = 13 ∨ v.toInt = 20 ∨ v.toInt = 21 ∨ v.toInt = 30 ∨ v.toInt = 40 ∨ v.toInt = 41 ∨ v.toInt = 50 ∨ v.toInt = 60 ∨ v.toInt = 70 ∨ v.toInt = 71 ∨ v.toInt = 80) : v.toInt = 10 ∨ v.toInt = 11 ∨ v.toInt = 12 ∨ v.toInt = 13 ∨ v.toInt = 20 ∨ v.toInt = 21 ∨ v.toInt = 30 ∨ v.toInt = 40 ∨ v.toInt = 41 ∨ v.toInt = 50 ∨ v.toInt = 60 ∨ v.toInt = 70 ∨ v.toInt = 71 ∨ v.toInt = 80 := by have r_v := rngI v; omega
set_option maxHeartbeats 4000000 in
set_option maxRecDepth 100000 in
theorem c_X8_run (l : Launch) (G : va_G) (cy : Nat → ClassId) (ad : rf → Nat) (d : Nat) (N : Nat) (m : Nat) (v : Int32) (u : Int32) (t : Int32) (Mz : mM) (hIz : Inv Mz) (hS : SAYC l G cy ad N m) (hdp : t.toInt + ((m : Nat) : Int) = 30) (hd0 : 0 ≤ t.toInt ∧ t.toInt ≤ 30) (hbo : v.toInt = 10 ∨ v.toInt = 11 ∨ v.toInt = 12 ∨ v.toInt = 13 ∨ v.toInt = 20 ∨ v.toInt = 21 ∨ v.toInt = 30 ∨ v.toInt = 40 ∨ v.toInt = 41 ∨ v.toInt = 50 ∨ v.toInt = 60 ∨ v.toInt = 70 ∨ v.toInt = 71 ∨ v.toInt = 80) : WP CC l G cy ad yX8_run cX8_run 5 (some .int) ((N + d) + 2) 0 [(0, vR (8, 0, 0)), (1, vI v), (2, vI u), (3, vI t)] [] Mz (fun r M' => Inv M' ∧ FR (S_voice) Mz M' ∧ True) := by
  have hFz : FR (S_voice) Mz Mz := FR.self
  refine w_aload_n dX8_run_0 rfl 0 rfl ?_
  refine w_getR (c' := (5, 3, 4)) fl_RX8_12 rfl rfl ic_8 dX8_run_1 rfl ?_
  refine w_iload_n dX8_run_4 rfl 1 rfl ?_
  refine w_callVv (as := [vI v]) (rest := []) (c_X5_add l G cy ad ((N + d) + 1) 3 4 v Mz hIz (by first | decide | (unfold vF; omega) | (unfold vRw; omega))) kV_X5_add (by decide +kernel) (Nat.le_of_ble_eq_true rfl) m_1195 rfl rfl rfl (ic_5 (by unfold vRw; omega)) rfl rfl (by decide) (Nat.le_of_ble_eq_true rfl) dX8_run_5 (fun M1_ q2_ => ?_)
  obtain ⟨hI4_, hF5_, h3_, hs7_⟩ := q2_
  have hF6_ := hFz.tr hF5_ (fun c k => (fun h => h.elim (fun h => (Or.inr (Or.inl ⟨h.1, h.2.1, h.2.2⟩))) (fun h => h.elim (fun h => (Or.inl ⟨h.1, h.2.1, h.2.2.1, h.2.2.2⟩)) (fun h => h.elim))))
  refine w_iload_n dX8_run_8 rfl 1 rfl ?_
  refine w_bipush (v := 10) dX8_run_9 (by decide) ?_
  refine w_idiv dX8_run_11 (by decide) (fun z8_ h9_ => ?_)
  refine w_iconst (v := 1) dX8_run_12 (by decide) ?_
  refine w_isub dX8_run_13 (fun z10_ h11_ => ?_)
  refine w_callS (as := [vI z10_]) (rest := []) (c_X9_kindAbove l G cy ad ((N + d) + 1) z10_ M1_ hI4_) kS_X9_kindAbove (by decide +kernel) (Nat.le_of_ble_eq_true rfl) m_1196 rfl rfl (by decide) (Nat.le_of_ble_eq_true rfl) dX8_run_14 (fun r12_ M13_ q14_ => ?_)
  obtain ⟨rfl, h15_, hs16_⟩ := q14_
  refine w_istore (ls' := [(4, vI r12_), (0, vR (8, 0, 0)), (1, vI v), (2, vI u), (3, vI t)]) dX8_run_17 (by decide) rfl ?_
  refine w_iload_n dX8_run_19 rfl 2 rfl ?_
  rcases (lf_c_X8_run_0 v hbo) with e17_ | e17_ | e17_ | e17_ | e17_ | e17_ | e17_ | e17_ | e17_ | e17_ | e17_ | e17_ | e17_ | e17_
  · refine w_ls (tgt := 144) (off := 124) dX8_run_20 (by decide) e17_ rfl (by decide) ?_
    refine w_iload_n dX8_run_144 rfl 3 rfl ?_
    refine w_aload_n dX8_run_145 rfl 1 rfl ?_
    refine w_getI fl_RX8_28 rfl rfl ic_8 dX8_run_146 (fun z18_ e19_ => ?_)
    refine w_iadd dX8_run_149 (fun z20_ h21_ => ?_)
    exact w_iret rfl dX8_run_150 ⟨hI4_, hF6_, trivial⟩
  · refine w_ls (tgt := 151) (off := 131) dX8_run_20 (by decide) e17_ rfl (by decide) ?_
    refine w_aload_n dX8_run_151 rfl 1 rfl ?_
    refine w_iconst (v := 0) dX8_run_152 (by decide) ?_
    refine w_iload_n dX8_run_153 rfl 3 rfl ?_
    refine w_iload_n dX8_run_154 rfl 4 rfl ?_
    refine w_callV (as := [vI 0, vI u, vI t]) (rest := []) (c_X8_own l G cy ad d N m 0 u t M1_ hI4_ hS hdp hd0) kV_X8_own (by decide +kernel) (Nat.le_of_ble_eq_true rfl) m_1197 rfl rfl rfl ic_8 rfl rfl (by decide) (Nat.le_of_ble_eq_true rfl) dX8_run_155 (fun r22_ M23_ q24_ => ?_)
    obtain ⟨hI26_, hF27_, h25_⟩ := q24_
    have hF28_ := hF6_.tr hF27_ (fun c k => (fun h => h.elim (fun h => (Or.inl ⟨h.1, h.2.1, h.2.2.1, h.2.2.2⟩)) (fun h => h.elim (fun h => (Or.inr (Or.inl ⟨h.1, h.2.1, h.2.2⟩))) (fun h => h.elim (fun h => (Or.inr (Or.inr (Or.inl ⟨h.1, h.2.1, h.2.2⟩)))) (fun h => h.elim)))))
    refine w_iconst (v := 2) dX8_run_158 (by decide) ?_
    refine w_imul dX8_run_159 (fun z30_ h31_ => ?_)
    exact w_iret rfl dX8_run_160 ⟨hI26_, hF28_, trivial⟩
  · refine w_ls (tgt := 161) (off := 141) dX8_run_20 (by decide) e17_ rfl (by decide) ?_
    refine w_aload_n dX8_run_161 rfl 1 rfl ?_
    refine w_iconst (v := 1) dX8_run_162 (by decide) ?_
    refine w_iload_n dX8_run_163 rfl 3 rfl ?_
    refine w_iload_n dX8_run_164 rfl 4 rfl ?_
    refine w_callV (as := [vI 1, vI u, vI t]) (rest := []) (c_X8_own l G cy ad d N m 1 u t M1_ hI4_ hS hdp hd0) kV_X8_own (by decide +kernel) (Nat.le_of_ble_eq_true rfl) m_1197 rfl rfl rfl ic_8 rfl rfl (by decide) (Nat.le_of_ble_eq_true rfl) dX8_run_165 (fun r32_ M33_ q34_ => ?_)
    obtain ⟨hI36_, hF37_, h35_⟩ := q34_
    have hF38_ := hF6_.tr hF37_ (fun c k => (fun h => h.elim (fun h => (Or.inl ⟨h.1, h.2.1, h.2.2.1, h.2.2.2⟩)) (fun h => h.elim (fun h => (Or.inr (Or.inl ⟨h.1, h.2.1, h.2.2⟩))) (fun h => h.elim (fun h => (Or.inr (Or.inr (Or.inl ⟨h.1, h.2.1, h.2.2⟩)))) (fun h => h.elim)))))
    refine w_aload_n dX8_run_168 rfl 1 rfl ?_
    refine w_getI fl_RX8_25 rfl rfl ic_8 dX8_run_169 (fun z40_ e41_ => ?_)
    refine w_isub dX8_run_172 (fun z42_ h43_ => ?_)
    exact w_iret rfl dX8_run_173 ⟨hI36_, hF38_, trivial⟩
  · refine w_ls (tgt := 174) (off := 154) dX8_run_20 (by decide) e17_ rfl (by decide) ?_
    refine w_aload_n dX8_run_174 rfl 1 rfl ?_
    refine w_iload_n dX8_run_175 rfl 3 rfl ?_
    refine w_callV (as := [vI u]) (rest := []) (c_X8_parted l G cy ad ((N + d) + 1) u M1_ hI4_) kV_X8_parted (by decide +kernel) (Nat.le_of_ble_eq_true rfl) m_1201 rfl rfl rfl ic_8 rfl rfl (by decide) (Nat.le_of_ble_eq_true rfl) dX8_run_176 (fun r44_ M45_ q46_ => ?_)
    obtain ⟨hI48_, hF49_, h47_, hs51_⟩ := q46_
    have hF50_ := hF6_.tr hF49_ (fun c k => (fun h => h.elim (fun h => (Or.inr (Or.inr (Or.inl ⟨h.1, h.2.1, h.2.2⟩)))) (fun h => h.elim)))
    exact w_iret rfl dX8_run_179 ⟨hI48_, hF50_, trivial⟩
  · refine w_ls (tgt := 180) (off := 160) dX8_run_20 (by decide) e17_ rfl (by decide) ?_
    refine w_aload_n dX8_run_180 rfl 1 rfl ?_
    refine w_iload dX8_run_181 0 rfl ?_
    refine w_iconst (v := 0) dX8_run_183 (by decide) ?_
    refine w_iload_n dX8_run_184 rfl 3 rfl ?_
    refine w_iload_n dX8_run_185 rfl 4 rfl ?_
    refine w_callV (as := [vI r12_, vI 0, vI u, vI t]) (rest := []) (hS (d + 1) r12_ 0 u t M1_ hI4_ hdp hd0) kV_X8_say (by decide +kernel) (Nat.le_of_ble_eq_true rfl) m_1185 rfl rfl rfl ic_8 rfl rfl (by decide) (Nat.le_of_ble_eq_true rfl) dX8_run_186 (fun r52_ M53_ q54_ => ?_)
    obtain ⟨hI56_, hF57_, h55_⟩ := q54_
    have hF58_ := hF6_.tr hF57_ (fun c k => (fun h => h.elim (fun h => (Or.inl ⟨h.1, h.2.1, h.2.2.1, h.2.2.2⟩)) (fun h => h.elim (fun h => (Or.inr (Or.inl ⟨h.1, h.2.1, h.2.2⟩))) (fun h => h.elim (fun h => (Or.inr (Or.inr (Or.inl ⟨h.1, h.2.1, h.2.2⟩)))) (fun h => h.elim)))))
    refine w_iconst (v := 3) dX8_run_189 (by decide) ?_
    refine w_imul dX8_run_190 (fun z60_ h61_ => ?_)
    exact w_iret rfl dX8_run_191 ⟨hI56_, hF58_, trivial⟩
  · refine w_ls (tgt := 192) (off := 172) dX8_run_20 (by decide) e17_ rfl (by decide) ?_
    refine w_aload_n dX8_run_192 rfl 1 rfl ?_
    refine w_iload dX8_run_193 0 rfl ?_
    refine w_iconst (v := 3) dX8_run_195 (by decide) ?_
    refine w_iload_n dX8_run_196 rfl 3 rfl ?_
    refine w_iload_n dX8_run_197 rfl 4 rfl ?_
    refine w_callV (as := [vI r12_, vI 3, vI u, vI t]) (rest := []) (hS (d + 1) r12_ 3 u t M1_ hI4_ hdp hd0) kV_X8_say (by decide +kernel) (Nat.le_of_ble_eq_true rfl) m_1185 rfl rfl rfl ic_8 rfl rfl (by decide) (Nat.le_of_ble_eq_true rfl) dX8_run_198 (fun r62_ M63_ q64_ => ?_)
    obtain ⟨hI66_, hF67_, h65_⟩ := q64_
    have hF68_ := hF6_.tr hF67_ (fun c k => (fun h => h.elim (fun h => (Or.inl ⟨h.1, h.2.1, h.2.2.1, h.2.2.2⟩)) (fun h => h.elim (fun h => (Or.inr (Or.inl ⟨h.1, h.2.1, h.2.2⟩))) (fun h => h.elim (fun h => (Or.inr (Or.inr (Or.inl ⟨h.1, h.2.1, h.2.2⟩)))) (fun h => h.elim)))))
    refine w_aload_n dX8_run_201 rfl 1 rfl ?_
    refine w_iconst (v := 2) dX8_run_202 (by decide) ?_
    refine w_iconst (v := 1) dX8_run_203 (by decide) ?_
    refine w_iload_n dX8_run_204 rfl 4 rfl ?_
    refine w_callV (as := [vI 2, vI 1, vI t]) (rest := [vI r62_]) (c_X8_own l G cy ad d N m 2 1 t M63_ hI66_ hS hdp hd0) kV_X8_own (by decide +kernel) (Nat.le_of_ble_eq_true rfl) m_1197 rfl rfl rfl ic_8 rfl rfl (by decide) (Nat.le_of_ble_eq_true rfl) dX8_run_205 (fun r70_ M71_ q72_ => ?_)
    obtain ⟨hI74_, hF75_, h73_⟩ := q72_
    have hF76_ := hF68_.tr hF75_ (fun c k => (fun h => h.elim (fun h => (Or.inl ⟨h.1, h.2.1, h.2.2.1, h.2.2.2⟩)) (fun h => h.elim (fun h => (Or.inr (Or.inl ⟨h.1, h.2.1, h.2.2⟩))) (fun h => h.elim (fun h => (Or.inr (Or.inr (Or.inl ⟨h.1, h.2.1, h.2.2⟩)))) (fun h => h.elim)))))
    refine w_iadd dX8_run_208 (fun z78_ h79_ => ?_)
    exact w_iret rfl dX8_run_209 ⟨hI74_, hF76_, trivial⟩
  · refine w_ls (tgt := 210) (off := 190) dX8_run_20 (by decide) e17_ rfl (by decide) ?_
    refine w_aload_n dX8_run_210 rfl 1 rfl ?_
    refine w_iload dX8_run_211 0 rfl ?_
    refine w_iconst (v := 1) dX8_run_213 (by decide) ?_
    refine w_iload_n dX8_run_214 rfl 3 rfl ?_
    refine w_iload_n dX8_run_215 rfl 4 rfl ?_
    refine w_callV (as := [vI r12_, vI 1, vI u, vI t]) (rest := []) (hS (d + 1) r12_ 1 u t M1_ hI4_ hdp hd0) kV_X8_say (by decide +kernel) (Nat.le_of_ble_eq_true rfl) m_1185 rfl rfl rfl ic_8 rfl rfl (by decide) (Nat.le_of_ble_eq_true rfl) dX8_run_216 (fun r80_ M81_ q82_ => ?_)
    obtain ⟨hI84_, hF85_, h83_⟩ := q82_
    have hF86_ := hF6_.tr hF85_ (fun c k => (fun h => h.elim (fun h => (Or.inl ⟨h.1, h.2.1, h.2.2.1, h.2.2.2⟩)) (fun h => h.elim (fun h => (Or.inr (Or.inl ⟨h.1, h.2.1, h.2.2⟩))) (fun h => h.elim (fun h => (Or.inr (Or.inr (Or.inl ⟨h.1, h.2.1, h.2.2⟩)))) (fun h => h.elim)))))
    refine w_aload_n dX8_run_219 rfl 1 rfl ?_
    refine w_getI fl_RX8_28 rfl rfl ic_8 dX8_run_220 (fun z88_ e89_ => ?_)
    refine w_ixor dX8_run_223 (fun z90_ h91_ => ?_)
    exact w_iret rfl dX8_run_224 ⟨hI84_, hF86_, trivial⟩
  · refine w_ls (tgt := 225) (off := 205) dX8_run_20 (by decide) e17_ rfl (by decide) ?_
    refine w_iconst (v := 0) dX8_run_225 (by decide) ?_
    refine w_aload_n dX8_run_226 rfl 1 rfl ?_
    refine w_iload dX8_run_227 0 rfl ?_
    refine w_iconst (v := 0) dX8_run_229 (by decide) ?_
    refine w_iload_n dX8_run_230 rfl 3 rfl ?_
    refine w_iload_n dX8_run_231 rfl 4 rfl ?_
    refine w_callV (as := [vI r12_, vI 0, vI u, vI t]) (rest := [vI 0]) (hS (d + 1) r12_ 0 u t M1_ hI4_ hdp hd0) kV_X8_say (by decide +kernel) (Nat.le_of_ble_eq_true rfl) m_1185 rfl rfl rfl ic_8 rfl rfl (by decide) (Nat.le_of_ble_eq_true rfl) dX8_run_232 (fun r92_ M93_ q94_ => ?_)
    obtain ⟨hI96_, hF97_, h95_⟩ := q94_
    have hF98_ := hF6_.tr hF97_ (fun c k => (fun h => h.elim (fun h => (Or.inl ⟨h.1, h.2.1, h.2.2.1, h.2.2.2⟩)) (fun h => h.elim (fun h => (Or.inr (Or.inl ⟨h.1, h.2.1, h.2.2⟩))) (fun h => h.elim (fun h => (Or.inr (Or.inr (Or.inl ⟨h.1, h.2.1, h.2.2⟩)))) (fun h => h.elim)))))
    refine w_isub dX8_run_235 (fun z100_ h101_ => ?_)
    exact w_iret rfl dX8_run_236 ⟨hI96_, hF98_, trivial⟩
  · refine w_ls (tgt := 237) (off := 217) dX8_run_20 (by decide) e17_ rfl (by decide) ?_
    refine w_aload_n dX8_run_237 rfl 1 rfl ?_
    refine w_iload dX8_run_238 0 rfl ?_
    refine w_iconst (v := 2) dX8_run_240 (by decide) ?_
    refine w_iload_n dX8_run_241 rfl 3 rfl ?_
    refine w_iload_n dX8_run_242 rfl 4 rfl ?_
    refine w_callV (as := [vI r12_, vI 2, vI u, vI t]) (rest := []) (hS (d + 1) r12_ 2 u t M1_ hI4_ hdp hd0) kV_X8_say (by decide +kernel) (Nat.le_of_ble_eq_true rfl) m_1185 rfl rfl rfl ic_8 rfl rfl (by decide) (Nat.le_of_ble_eq_true rfl) dX8_run_243 (fun r102_ M103_ q104_ => ?_)
    obtain ⟨hI106_, hF107_, h105_⟩ := q104_
    have hF108_ := hF6_.tr hF107_ (fun c k => (fun h => h.elim (fun h => (Or.inl ⟨h.1, h.2.1, h.2.2.1, h.2.2.2⟩)) (fun h => h.elim (fun h => (Or.inr (Or.inl ⟨h.1, h.2.1, h.2.2⟩))) (fun h => h.elim (fun h => (Or.inr (Or.inr (Or.inl ⟨h.1, h.2.1, h.2.2⟩)))) (fun h => h.elim)))))
    refine w_iconst (v := 5) dX8_run_246 (by decide) ?_
    refine w_iadd dX8_run_247 (fun z110_ h111_ => ?_)
    exact w_iret rfl dX8_run_248 ⟨hI106_, hF108_, trivial⟩
  · refine w_ls (tgt := 249) (off := 229) dX8_run_20 (by decide) e17_ rfl (by decide) ?_
    refine w_aload_n dX8_run_249 rfl 1 rfl ?_
    refine w_iload dX8_run_250 0 rfl ?_
    refine w_iconst (v := 2) dX8_run_252 (by decide) ?_
    refine w_iload_n dX8_run_253 rfl 3 rfl ?_
    refine w_iconst (v := 1) dX8_run_254 (by decide) ?_
    refine w_isub dX8_run_255 (fun z112_ h113_ => ?_)
    refine w_iload_n dX8_run_256 rfl 4 rfl ?_
    refine w_callV (as := [vI r12_, vI 2, vI z112_, vI t]) (rest := []) (hS (d + 1) r12_ 2 z112_ t M1_ hI4_ hdp hd0) kV_X8_say (by decide +kernel) (Nat.le_of_ble_eq_true rfl) m_1185 rfl rfl rfl ic_8 rfl rfl (by decide) (Nat.le_of_ble_eq_true rfl) dX8_run_257 (fun r114_ M115_ q116_ => ?_)
    obtain ⟨hI118_, hF119_, h117_⟩ := q116_
    have hF120_ := hF6_.tr hF119_ (fun c k => (fun h => h.elim (fun h => (Or.inl ⟨h.1, h.2.1, h.2.2.1, h.2.2.2⟩)) (fun h => h.elim (fun h => (Or.inr (Or.inl ⟨h.1, h.2.1, h.2.2⟩))) (fun h => h.elim (fun h => (Or.inr (Or.inr (Or.inl ⟨h.1, h.2.1, h.2.2⟩)))) (fun h => h.elim)))))
    exact w_iret rfl dX8_run_260 ⟨hI118_, hF120_, trivial⟩
  · refine w_ls (tgt := 261) (off := 241) dX8_run_20 (by decide) e17_ rfl (by decide) ?_
    refine w_aload_n dX8_run_261 rfl 1 rfl ?_
    refine w_iload dX8_run_262 0 rfl ?_
    refine w_iconst (v := 1) dX8_run_264 (by decide) ?_
    refine w_iload_n dX8_run_265 rfl 3 rfl ?_
    refine w_iconst (v := 2) dX8_run_266 (by decide) ?_
    refine w_iadd dX8_run_267 (fun z122_ h123_ => ?_)
    refine w_iload_n dX8_run_268 rfl 4 rfl ?_
    refine w_callV (as := [vI r12_, vI 1, vI z122_, vI t]) (rest := []) (hS (d + 1) r12_ 1 z122_ t M1_ hI4_ hdp hd0) kV_X8_say (by decide +kernel) (Nat.le_of_ble_eq_true rfl) m_1185 rfl rfl rfl ic_8 rfl rfl (by decide) (Nat.le_of_ble_eq_true rfl) dX8_run_269 (fun r124_ M125_ q126_ => ?_)
    obtain ⟨hI128_, hF129_, h127_⟩ := q126_
    have hF130_ := hF6_.tr hF129_ (fun c k => (fun h => h.elim (fun h => (Or.inl ⟨h.1, h.2.1, h.2.2.1, h.2.2.2⟩)) (fun h => h.elim (fun h => (Or.inr (Or.inl ⟨h.1, h.2.1, h.2.2⟩))) (fun h => h.elim (fun h => (Or.inr (Or.inr (Or.inl ⟨h.1, h.2.1, h.2.2⟩)))) (fun h => h.elim)))))
    exact w_iret rfl dX8_run_272 ⟨hI128_, hF130_, trivial⟩
  · refine w_ls (tgt := 273) (off := 253) dX8_run_20 (by decide) e17_ rfl (by decide) ?_
    refine w_aload_n dX8_run_273 rfl 1 rfl ?_
    refine w_iload dX8_run_274 0 rfl ?_
    refine w_iconst (v := 1) dX8_run_276 (by decide) ?_
    refine w_iload_n dX8_run_277 rfl 3 rfl ?_
    refine w_iload_n dX8_run_278 rfl 4 rfl ?_
    refine w_callV (as := [vI r12_, vI 1, vI u, vI t]) (rest := []) (hS (d + 1) r12_ 1 u t M1_ hI4_ hdp hd0) kV_X8_say (by decide +kernel) (Nat.le_of_ble_eq_true rfl) m_1185 rfl rfl rfl ic_8 rfl rfl (by decide) (Nat.le_of_ble_eq_true rfl) dX8_run_279 (fun r132_ M133_ q134_ => ?_)
    obtain ⟨hI136_, hF137_, h135_⟩ := q134_
    have hF138_ := hF6_.tr hF137_ (fun c k => (fun h => h.elim (fun h => (Or.inl ⟨h.1, h.2.1, h.2.2.1, h.2.2.2⟩)) (fun h => h.elim (fun h => (Or.inr (Or.inl ⟨h.1, h.2.1, h.2.2⟩))) (fun h => h.elim (fun h => (Or.inr (Or.inr (Or.inl ⟨h.1, h.2.1, h.2.2⟩)))) (fun h => h.elim)))))
    refine w_iconst (v := 2) dX8_run_282 (by decide) ?_
    refine w_idiv dX8_run_283 (by decide) (fun z140_ h141_ => ?_)
    exact w_iret rfl dX8_run_284 ⟨hI136_, hF138_, trivial⟩
  · refine w_ls (tgt := 285) (off := 265) dX8_run_20 (by decide) e17_ rfl (by decide) ?_
    refine w_aload_n dX8_run_285 rfl 1 rfl ?_
    refine w_iload dX8_run_286 0 rfl ?_
    refine w_iconst (v := 2) dX8_run_288 (by decide) ?_
    refine w_iload_n dX8_run_289 rfl 3 rfl ?_
    refine w_iload_n dX8_run_290 rfl 4 rfl ?_
    refine w_callV (as := [vI r12_, vI 2, vI u, vI t]) (rest := []) (hS (d + 1) r12_ 2 u t M1_ hI4_ hdp hd0) kV_X8_say (by decide +kernel) (Nat.le_of_ble_eq_true rfl) m_1185 rfl rfl rfl ic_8 rfl rfl (by decide) (Nat.le_of_ble_eq_true rfl) dX8_run_291 (fun r142_ M143_ q144_ => ?_)
    obtain ⟨hI146_, hF147_, h145_⟩ := q144_
    have hF148_ := hF6_.tr hF147_ (fun c k => (fun h => h.elim (fun h => (Or.inl ⟨h.1, h.2.1, h.2.2.1, h.2.2.2⟩)) (fun h => h.elim (fun h => (Or.inr (Or.inl ⟨h.1, h.2.1, h.2.2⟩))) (fun h => h.elim (fun h => (Or.inr (Or.inr (Or.inl ⟨h.1, h.2.1, h.2.2⟩)))) (fun h => h.elim)))))
    refine w_aload_n dX8_run_294 rfl 1 rfl ?_
    refine w_iconst (v := 0) dX8_run_295 (by decide) ?_
    refine w_iconst (v := 2) dX8_run_296 (by decide) ?_
    refine w_iload_n dX8_run_297 rfl 4 rfl ?_
    refine w_callV (as := [vI 0, vI 2, vI t]) (rest := [vI r142_]) (c_X8_own l G cy ad d N m 0 2 t M143_ hI146_ hS hdp hd0) kV_X8_own (by decide +kernel) (Nat.le_of_ble_eq_true rfl) m_1197 rfl rfl rfl ic_8 rfl rfl (by decide) (Nat.le_of_ble_eq_true rfl) dX8_run_298 (fun r150_ M151_ q152_ => ?_)
    obtain ⟨hI154_, hF155_, h153_⟩ := q152_
    have hF156_ := hF148_.tr hF155_ (fun c k => (fun h => h.elim (fun h => (Or.inl ⟨h.1, h.2.1, h.2.2.1, h.2.2.2⟩)) (fun h => h.elim (fun h => (Or.inr (Or.inl ⟨h.1, h.2.1, h.2.2⟩))) (fun h => h.elim (fun h => (Or.inr (Or.inr (Or.inl ⟨h.1, h.2.1, h.2.2⟩)))) (fun h => h.elim)))))
    refine w_isub dX8_run_301 (fun z158_ h159_ => ?_)
    exact w_iret rfl dX8_run_302 ⟨hI154_, hF156_, trivial⟩
  · refine w_ls (tgt := 303) (off := 283) dX8_run_20 (by decide) e17_ rfl (by decide) ?_
    refine w_aload_n dX8_run_303 rfl 1 rfl ?_
    refine w_iload dX8_run_304 0 rfl ?_
    refine w_iconst (v := 3) dX8_run_306 (by decide) ?_
    refine w_iload_n dX8_run_307 rfl 3 rfl ?_
    refine w_iload_n dX8_run_308 rfl 4 rfl ?_
    refine w_callV (as := [vI r12_, vI 3, vI u, vI t]) (rest := []) (hS (d + 1) r12_ 3 u t M1_ hI4_ hdp hd0) kV_X8_say (by decide +kernel) (Nat.le_of_ble_eq_true rfl) m_1185 rfl rfl rfl ic_8 rfl rfl (by decide) (Nat.le_of_ble_eq_true rfl) dX8_run_309 (fun r160_ M161_ q162_ => ?_)
    obtain ⟨hI164_, hF165_, h163_⟩ := q162_
    have hF166_ := hF6_.tr hF165_ (fun c k => (fun h => h.elim (fun h => (Or.inl ⟨h.1, h.2.1, h.2.2.1, h.2.2.2⟩)) (fun h => h.elim (fun h => (Or.inr (Or.inl ⟨h.1, h.2.1, h.2.2⟩))) (fun h => h.elim (fun h => (Or.inr (Or.inr (Or.inl ⟨h.1, h.2.1, h.2.2⟩)))) (fun h => h.elim)))))
    refine w_aload_n dX8_run_312 rfl 1 rfl ?_
    refine w_iconst (v := 1) dX8_run_313 (by decide) ?_
    refine w_iload_n dX8_run_314 rfl 3 rfl ?_
    refine w_iload_n dX8_run_315 rfl 4 rfl ?_
    refine w_callV (as := [vI 1, vI u, vI t]) (rest := [vI r160_]) (c_X8_own l G cy ad d N m 1 u t M161_ hI164_ hS hdp hd0) kV_X8_own (by decide +kernel) (Nat.le_of_ble_eq_true rfl) m_1197 rfl rfl rfl ic_8 rfl rfl (by decide) (Nat.le_of_ble_eq_true rfl) dX8_run_316 (fun r168_ M169_ q170_ => ?_)
    obtain ⟨hI172_, hF173_, h171_⟩ := q170_
    have hF174_ := hF166_.tr hF173_ (fun c k => (fun h => h.elim (fun h => (Or.inl ⟨h.1, h.2.1, h.2.2.1, h.2.2.2⟩)) (fun h => h.elim (fun h => (Or.inr (Or.inl ⟨h.1, h.2.1, h.2.2⟩))) (fun h => h.elim (fun h => (Or.inr (Or.inr (Or.inl ⟨h.1, h.2.1, h.2.2⟩)))) (fun h => h.elim)))))
    refine w_isub dX8_run_319 (fun z176_ h177_ => ?_)
    exact w_iret rfl dX8_run_320 ⟨hI172_, hF174_, trivial⟩
theorem voices_rec (l : Launch) (G : va_G) (cy : Nat → ClassId) (ad : rf → Nat) : ∀ m, SAYC l G cy ad (3 * m + 1) m ∧ RUNC l G cy ad (3 * m + 3) m := by
  intro m
  induction m with
  | zero =>
    have hS : SAYC l G cy ad (3 * 0 + 1) 0 := fun d v u t s Mz hIz hdp hd0 => w_dep (by omega) (c_X8_say l G cy ad d 0 0 v u t s Mz hIz (fun k hk => absurd hk (by omega)) hdp hd0)
    exact ⟨hS, fun d v u t Mz hIz hdp hd0 hbo => w_dep (by omega) (c_X8_run l G cy ad d (3 * 0 + 1) 0 v u t Mz hIz hS hdp hd0 hbo)⟩
  | succ m ih =>
    have hS : SAYC l G cy ad (3 * (m + 1) + 1) (m + 1) := fun d v u t s Mz hIz hdp hd0 => w_dep (by omega) (c_X8_say l G cy ad d (3 * m + 3) (m + 1) v u t s Mz hIz (fun k hk => by
      obtain rfl : k = m := by omega
      exact ih.2) hdp hd0)
    exact ⟨hS, fun d v u t Mz hIz hdp hd0 hbo => w_dep (by omega) (c_X8_run l G cy ad d (3 * (m + 1) + 1) (m + 1) v u t Mz hIz hS hdp hd0 hbo)⟩
theorem c_X8_say0 (l : Launch) (G : va_G) (cy : Nat → ClassId) (ad : rf → Nat) (d : Nat) (v u t s : Int32) (Mz : mM) (hIz : Inv Mz) (h0 : s.toInt = 0) : WP CC l G cy ad yX8_say cX8_say 9 (some .int) (d + 91) 0 [(0, vR (8, 0, 0)), (1, vI v), (2, vI u), (3, vI t), (4, vI s)] [] Mz (fun r M' => Inv M' ∧ FR (S_voice) Mz M' ∧ True) := w_dep (by omega) ((voices_rec l G cy ad 30).1 d v u t s Mz hIz (by omega) (by omega))
