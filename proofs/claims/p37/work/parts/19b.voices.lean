section WPV
variable {cls : List rf} {l : Launch} {G : va_G} {cy : Nat → ClassId} {ad : rf → Nat} {y : MethodName} {b : ByteArray} {n : Nat} {r : Option FieldType} {d : Nat} {pc : Nat} {ls : List (Nat × mV)} {st : List mV} {M : mM} {Q : Int32 → mM → Prop}
theorem w_alenT {k : Nat} {q : String × String × List Int32} {v : Int32} (hk : STs[k]? = some q) (hd : decode b pc = .ok (.arraylength, 1)) (hv : Int32.ofNat q.2.2.length = v) (kk : WP cls l G cy ad y b n r d (pc + 1) ls (vI v :: st) M Q) : WP cls l G cy ad y b n r d pc ls (vR (90, k, 0) :: st) M Q := by
  intro p e s m args below meth c A X lsA H locs hl hP hS
  have kk := kk p e s m args below meth c A X lsA H locs hl hP hS
  obtain ⟨hx1, hb, hr, hml, hts, hown, hlk, hE, hT, hA⟩ := X
  exact va_tlen hx1 hb (hT.1 k _ hk).2 hS hv hd kk
theorem w_dep {d1 d2 : Nat} (h : d1 = d2) (kk : WP cls l G cy ad y b n r d1 pc ls st M Q) : WP cls l G cy ad y b n r d2 pc ls st M Q := h ▸ kk
end WPV
def S_voice : rf → Nat → Prop := fun c k => (c.1 = 5 ∧ c.2.1 = 3 ∧ c.2.2 = 4 ∧ k = 1) ∨ (c.1 = 33 ∧ c.2.1 = 3 ∧ c.2.2 = 4) ∨ (c.1 = 8 ∧ c.2.1 = 0 ∧ k = 5) ∨ False
theorem bodies_in : ∀ j, j < 32 → (let z := (([10, 11, 12, 13, 20, 0, 0, 21, 0, 30, 0, 0, 40, 0, 41, 0, 0, 0, 50, 0, 0, 60, 0, 0, 0, 70, 71, 0, 0, 0, 0, 80] : List Int32).getD j 0); z.toInt = 0 ∨ z.toInt = 10 ∨ z.toInt = 11 ∨ z.toInt = 12 ∨ z.toInt = 13 ∨ z.toInt = 20 ∨ z.toInt = 21 ∨ z.toInt = 30 ∨ z.toInt = 40 ∨ z.toInt = 41 ∨ z.toInt = 50 ∨ z.toInt = 60 ∨ z.toInt = 70 ∨ z.toInt = 71 ∨ z.toInt = 80) := by decide +kernel
def SAYC (l : Launch) (G : va_G) (cy : Nat → ClassId) (ad : rf → Nat) (N m : Nat) : Prop := ∀ (d : Nat) (v u t s : Int32) (Mz : mM) (hIz : Inv Mz) (hdp : s.toInt + ((m : Nat) : Int) = 30) (hd0 : 0 ≤ s.toInt ∧ s.toInt ≤ 30), WP CC l G cy ad yX8_say cX8_say 9 (some .int) (N + d) 0 [(0, vR (8, 0, 0)), (1, vI v), (2, vI u), (3, vI t), (4, vI s)] [] Mz (fun r M' => Inv M' ∧ FR (S_voice) Mz M' ∧ True)
def RUNC (l : Launch) (G : va_G) (cy : Nat → ClassId) (ad : rf → Nat) (N m : Nat) : Prop := ∀ (d : Nat) (v u t : Int32) (Mz : mM) (hIz : Inv Mz) (hdp : t.toInt + ((m : Nat) : Int) = 30) (hd0 : 0 ≤ t.toInt ∧ t.toInt ≤ 30) (hbo : v.toInt = 10 ∨ v.toInt = 11 ∨ v.toInt = 12 ∨ v.toInt = 13 ∨ v.toInt = 20 ∨ v.toInt = 21 ∨ v.toInt = 30 ∨ v.toInt = 40 ∨ v.toInt = 41 ∨ v.toInt = 50 ∨ v.toInt = 60 ∨ v.toInt = 70 ∨ v.toInt = 71 ∨ v.toInt = 80), WP CC l G cy ad yX8_run cX8_run 5 (some .int) (N + d) 0 [(0, vR (8, 0, 0)), (1, vI v), (2, vI u), (3, vI t)] [] Mz (fun r M' => Inv M' ∧ FR (S_voice) Mz M' ∧ True)
theorem lf_c_X8_say_0  (v6_6 : Int32) (hv0_6 : 0 ≤ v6_6.toInt) (hv1_6 : v6_6.toInt ≤ 8) (h2_ : v6_6.toInt < 8) : -2147483648 ≤ v6_6.toInt + 1 ∧ v6_6.toInt + 1 < 2147483648 := by have r_v6_6 := rngI v6_6; omega
theorem lf_c_X8_say_1  (v6_6 : Int32) (z12_ : Int32) (hv0_6 : 0 ≤ v6_6.toInt) (hv1_6 : v6_6.toInt ≤ 8) (h2_ : v6_6.toInt < 8) (h13_ : z12_.toInt = v6_6.toInt + 1) : 0 ≤ z12_.toInt := by have r_v6_6 := rngI v6_6; have r_z12_ := rngI z12_; omega
theorem lf_c_X8_say_2  (v6_6 : Int32) (z12_ : Int32) (hv0_6 : 0 ≤ v6_6.toInt) (hv1_6 : v6_6.toInt ≤ 8) (h2_ : v6_6.toInt < 8) (h13_ : z12_.toInt = v6_6.toInt + 1) : z12_.toInt ≤ 8 := by have r_v6_6 := rngI v6_6; have r_z12_ := rngI z12_; omega
theorem lf_c_X8_say_3  (v6_6 : Int32) (z12_ : Int32) (hv0_6 : 0 ≤ v6_6.toInt) (hv1_6 : v6_6.toInt ≤ 8) (h2_ : v6_6.toInt < 8) (h13_ : z12_.toInt = v6_6.toInt + 1) : (2147483648 - z12_.toInt).toNat < (2147483648 - v6_6.toInt).toNat := by have r_v6_6 := rngI v6_6; have r_z12_ := rngI z12_; omega
theorem lf_c_X8_say_4  (v6_6 : Int32) (hv0_6 : 0 ≤ v6_6.toInt) (hv1_6 : v6_6.toInt ≤ 8) (h2_ : v6_6.toInt < 8) : -2147483648 ≤ v6_6.toInt + 1 ∧ v6_6.toInt + 1 < 2147483648 := by have r_v6_6 := rngI v6_6; omega
theorem lf_c_X8_say_5  (v6_6 : Int32) (z20_ : Int32) (hv0_6 : 0 ≤ v6_6.toInt) (hv1_6 : v6_6.toInt ≤ 8) (h2_ : v6_6.toInt < 8) (h21_ : z20_.toInt = v6_6.toInt + 1) : 0 ≤ z20_.toInt := by have r_v6_6 := rngI v6_6; have r_z20_ := rngI z20_; omega
theorem lf_c_X8_say_6  (v6_6 : Int32) (z20_ : Int32) (hv0_6 : 0 ≤ v6_6.toInt) (hv1_6 : v6_6.toInt ≤ 8) (h2_ : v6_6.toInt < 8) (h21_ : z20_.toInt = v6_6.toInt + 1) : z20_.toInt ≤ 8 := by have r_v6_6 := rngI v6_6; have r_z20_ := rngI z20_; omega
theorem lf_c_X8_say_7  (v6_6 : Int32) (z20_ : Int32) (hv0_6 : 0 ≤ v6_6.toInt) (hv1_6 : v6_6.toInt ≤ 8) (h2_ : v6_6.toInt < 8) (h21_ : z20_.toInt = v6_6.toInt + 1) : (2147483648 - z20_.toInt).toNat < (2147483648 - v6_6.toInt).toNat := by have r_v6_6 := rngI v6_6; have r_z20_ := rngI z20_; omega
theorem lf_c_X8_say_8  (z5_ : Int32) (h6_ : 0 ≤ z5_.toInt) (h14_ : z5_.toInt < 32) : 0 ≤ z5_.toInt ∧ z5_.toInt < ((32 : Nat) : Int) := by have r_z5_ := rngI z5_; omega
theorem lf_c_X8_say_9  (z5_ : Int32) (j24_ : Nat) (h6_ : 0 ≤ z5_.toInt) (h14_ : z5_.toInt < 32) (h25_ : (j24_ : Int) = z5_.toInt) : j24_ < 32 := by have r_z5_ := rngI z5_; omega
theorem lf_c_X8_say_10  (v6_6 : Int32) (hv0_6 : 0 ≤ v6_6.toInt) (hv1_6 : v6_6.toInt ≤ 8) (h2_ : v6_6.toInt < 8) : -2147483648 ≤ v6_6.toInt + 1 ∧ v6_6.toInt + 1 < 2147483648 := by have r_v6_6 := rngI v6_6; omega
theorem lf_c_X8_say_11  (v6_6 : Int32) (z32_ : Int32) (hv0_6 : 0 ≤ v6_6.toInt) (hv1_6 : v6_6.toInt ≤ 8) (h2_ : v6_6.toInt < 8) (h33_ : z32_.toInt = v6_6.toInt + 1) : 0 ≤ z32_.toInt := by have r_v6_6 := rngI v6_6; have r_z32_ := rngI z32_; omega
theorem lf_c_X8_say_12  (v6_6 : Int32) (z32_ : Int32) (hv0_6 : 0 ≤ v6_6.toInt) (hv1_6 : v6_6.toInt ≤ 8) (h2_ : v6_6.toInt < 8) (h33_ : z32_.toInt = v6_6.toInt + 1) : z32_.toInt ≤ 8 := by have r_v6_6 := rngI v6_6; have r_z32_ := rngI z32_; omega
theorem lf_c_X8_say_13  (v6_6 : Int32) (z32_ : Int32) (hv0_6 : 0 ≤ v6_6.toInt) (hv1_6 : v6_6.toInt ≤ 8) (h2_ : v6_6.toInt < 8) (h33_ : z32_.toInt = v6_6.toInt + 1) : (2147483648 - z32_.toInt).toNat < (2147483648 - v6_6.toInt).toNat := by have r_v6_6 := rngI v6_6; have r_z32_ := rngI z32_; omega
theorem lf_c_X8_say_14  (m : Nat) (s : Int32) (hdp : s.toInt + ((m : Nat) : Int) = 30) (hd0 : 0 ≤ s.toInt ∧ s.toInt ≤ 30) (h34_ : s.toInt < 30) : -2147483648 ≤ s.toInt + 1 ∧ s.toInt + 1 < 2147483648 := by have r_s := rngI s; omega
theorem lf_c_X8_say_15  (m : Nat) (s : Int32) (z35_ : Int32) (hdp : s.toInt + ((m : Nat) : Int) = 30) (hd0 : 0 ≤ s.toInt ∧ s.toInt ≤ 30) (h34_ : s.toInt < 30) (h36_ : z35_.toInt = s.toInt + 1) : z35_.toInt + (((m - 1) : Nat) : Int) = 30 := by have r_s := rngI s; have r_z35_ := rngI z35_; omega
theorem lf_c_X8_say_16  (m : Nat) (s : Int32) (z35_ : Int32) (hdp : s.toInt + ((m : Nat) : Int) = 30) (hd0 : 0 ≤ s.toInt ∧ s.toInt ≤ 30) (h34_ : s.toInt < 30) (h36_ : z35_.toInt = s.toInt + 1) : 0 ≤ z35_.toInt ∧ z35_.toInt ≤ 30 := by have r_s := rngI s; have r_z35_ := rngI z35_; omega
theorem lf_c_X8_say_17  (z22_ : Int32) (h26_ : z22_.toInt = 0 ∨ z22_.toInt = 10 ∨ z22_.toInt = 11 ∨ z22_.toInt = 12 ∨ z22_.toInt = 13 ∨ z22_.toInt = 20 ∨ z22_.toInt = 21 ∨ z22_.toInt = 30 ∨ z22_.toInt = 40 ∨ z22_.toInt = 41 ∨ z22_.toInt = 50 ∨ z22_.toInt = 60 ∨ z22_.toInt = 70 ∨ z22_.toInt = 71 ∨ z22_.toInt = 80) (h27_ : ¬ z22_.toInt = 0) : z22_.toInt = 10 ∨ z22_.toInt = 11 ∨ z22_.toInt = 12 ∨ z22_.toInt = 13 ∨ z22_.toInt = 20 ∨ z22_.toInt = 21 ∨ z22_.toInt = 30 ∨ z22_.toInt = 40 ∨ z22_.toInt = 41 ∨ z22_.toInt = 50 ∨ z22_.toInt = 60 ∨ z22_.toInt = 70 ∨ z22_.toInt = 71 ∨ z22_.toInt = 80 := by have r_z22_ := rngI z22_; omega
theorem lf_c_X8_say_18  (m : Nat) (s : Int32) (z35_ : Int32) (hdp : s.toInt + ((m : Nat) : Int) = 30) (hd0 : 0 ≤ s.toInt ∧ s.toInt ≤ 30) (h34_ : s.toInt < 30) (h36_ : z35_.toInt = s.toInt + 1) : m - 1 + 1 = m := by have r_s := rngI s; have r_z35_ := rngI z35_; omega
theorem lf_c_X8_say_19    : 0 ≤ (0 : Int32).toInt := by have q0 := li_0; omega
theorem lf_c_X8_say_20    : (0 : Int32).toInt ≤ 8 := by have q0 := li_0; omega
set_option maxHeartbeats 4000000 in
set_option maxRecDepth 100000 in
theorem c_X8_say (l : Launch) (G : va_G) (cy : Nat → ClassId) (ad : rf → Nat) (d : Nat) (N : Nat) (m : Nat) (v : Int32) (u : Int32) (t : Int32) (s : Int32) (Mz : mM) (hIz : Inv Mz) (hR : ∀ k : Nat, k + 1 = m → RUNC l G cy ad N k) (hdp : s.toInt + ((m : Nat) : Int) = 30) (hd0 : 0 ≤ s.toInt ∧ s.toInt ≤ 30) : WP CC l G cy ad yX8_say cX8_say 9 (some .int) ((N + d) + 1) 0 [(0, vR (8, 0, 0)), (1, vI v), (2, vI u), (3, vI t), (4, vI s)] [] Mz (fun r M' => Inv M' ∧ FR (S_voice) Mz M' ∧ True) := by
  have hFz : FR (S_voice) Mz Mz := FR.self
  refine w_iload_n dX8_say_0 rfl 1 rfl ?_
  refine w_istore (ls' := [(5, vI v), (0, vR (8, 0, 0)), (1, vI v), (2, vI u), (3, vI t), (4, vI s)]) dX8_say_1 (by decide) rfl ?_
  refine w_iconst (v := 0) dX8_say_3 (by decide) ?_
  refine w_istore (ls' := [(6, vI 0), (5, vI v), (0, vR (8, 0, 0)), (1, vI v), (2, vI u), (3, vI t), (4, vI s)]) dX8_say_4 (by decide) rfl ?_
  have lp1_ : ∀ (nn_6 : Nat) (M_6 : mM) (hI_6 : Inv M_6) (hF_6 : FR (S_voice) Mz M_6) (v6_6 : Int32) (v5_6 : Int32) (hv0_6 : 0 ≤ v6_6.toInt) (hv1_6 : v6_6.toInt ≤ 8), (2147483648 - v6_6.toInt).toNat < nn_6 → WP CC l G cy ad yX8_say cX8_say 9 (some .int) ((N + d) + 1) 6 [(6, vI v6_6), (5, vI v5_6), (0, vR (8, 0, 0)), (1, vI v), (2, vI u), (3, vI t), (4, vI s)] [] M_6 (fun r M' => Inv M' ∧ FR (S_voice) Mz M' ∧ True) := by
    intro nn_6
    induction nn_6 with
    | zero => intro M_6 hI_6 hF_6 v6_6 v5_6 hv0_6 hv1_6 hm_6; exact absurd hm_6 (Nat.not_lt_zero _)
    | succ nn_6 ih_6 =>
      intro M_6 hI_6 hF_6 v6_6 v5_6 hv0_6 hv1_6 hm_6
      refine w_iload dX8_say_6 0 rfl ?_
      refine w_bipush (v := 8) dX8_say_8 (by decide) ?_
      refine w_icmp_ge (tgt := 93) dX8_say_10 (by decide) (rfl : v6_6.toInt = v6_6.toInt) li_8 (fun h2_ => ?_) (fun h2_ => ?_)
      · refine w_iconst (v := 0) dX8_say_93 (by decide) ?_
        exact w_iret rfl dX8_say_94 ⟨hI_6, hF_6, trivial⟩
      · refine w_iload dX8_say_13 1 rfl ?_
        refine w_if_lt (tgt := 93) dX8_say_15 (by decide) (rfl : v5_6.toInt = v5_6.toInt) (fun h3_ => ?_) (fun h3_ => ?_)
        · refine w_iconst (v := 0) dX8_say_93 (by decide) ?_
          exact w_iret rfl dX8_say_94 ⟨hI_6, hF_6, trivial⟩
        · refine w_iconst (v := 4) dX8_say_18 (by decide) ?_
          refine w_iload dX8_say_19 1 rfl ?_
          refine w_imul dX8_say_21 (fun z4_ _ => ?_)
          refine w_iload_n dX8_say_22 rfl 4 rfl ?_
          refine w_iadd dX8_say_23 (fun z5_ _ => ?_)
          refine w_istore (ls' := [(7, vI z5_), (6, vI v6_6), (5, vI v5_6), (0, vR (8, 0, 0)), (1, vI v), (2, vI u), (3, vI t), (4, vI s)]) dX8_say_24 (by decide) rfl ?_
          refine w_iload dX8_say_26 0 rfl ?_
          refine w_if_lt (tgt := 49) dX8_say_28 (by decide) (rfl : z5_.toInt = z5_.toInt) (fun h6_ => ?_) (fun h6_ => ?_)
          · refine w_iconst (v := 0) dX8_say_49 (by decide) ?_
            refine w_istore (ls' := [(8, vI 0), (7, vI z5_), (6, vI v6_6), (5, vI v5_6), (0, vR (8, 0, 0)), (1, vI v), (2, vI u), (3, vI t), (4, vI s)]) dX8_say_50 (by decide) rfl ?_
            refine w_iload dX8_say_52 0 rfl ?_
            refine w_if_eq (tgt := 80) dX8_say_54 (by decide) li_0 (fun h7_ => ?_) (fun h9 => (absurd h9 (by decide)))
            refine w_iload dX8_say_80 3 rfl ?_
            refine w_callS (as := [vI v5_6]) (rest := []) (c_X9_kindAbove l G cy ad (N + d) v5_6 M_6 hI_6) kS_X9_kindAbove (by decide +kernel) (Nat.le_of_ble_eq_true rfl) m_1196 rfl rfl (by decide) (Nat.le_of_ble_eq_true rfl) dX8_say_82 (fun r8_ M9_ q10_ => ?_)
            obtain ⟨rfl, h11_⟩ := q10_
            refine w_istore (ls' := [(5, vI r8_), (8, vI 0), (7, vI z5_), (6, vI v6_6), (0, vR (8, 0, 0)), (1, vI v), (2, vI u), (3, vI t), (4, vI s)]) dX8_say_85 (by decide) rfl ?_
            refine w_iincB (j := 3) (f := fun z12_ => [(6, vI z12_), (5, vI r8_), (8, vI 0), (7, vI z5_), (0, vR (8, 0, 0)), (1, vI v), (2, vI u), (3, vI t), (4, vI s)]) dX8_say_87 rfl (by decide) (fun _ => rfl) (rfl : v6_6.toInt = v6_6.toInt) li_1 (lf_c_X8_say_0 v6_6 hv0_6 hv1_6 h2_) (fun z12_ h13_ => ?_)
            refine w_goto (tgt := 6) dX8_say_90 (by decide) ?_
            refine w_loc (ls' := [(6, vI z12_), (5, vI r8_), (0, vR (8, 0, 0)), (1, vI v), (2, vI u), (3, vI t), (4, vI s)]) [0, 1, 4, 5, 6, 7, 8] rfl ?_
            exact ih_6 M_6 hI_6 hF_6 z12_ r8_ (lf_c_X8_say_1 v6_6 z12_ hv0_6 hv1_6 h2_ h13_) (lf_c_X8_say_2 v6_6 z12_ hv0_6 hv1_6 h2_ h13_) (Nat.lt_of_lt_of_le (lf_c_X8_say_3 v6_6 z12_ hv0_6 hv1_6 h2_ h13_) (Nat.le_of_lt_succ hm_6))
          · refine w_iload dX8_say_31 0 rfl ?_
            refine w_gets (k := 6) rfl m_1189 dX8_say_33 ?_
            refine w_alenT (k := 6) (v := 32) rfl dX8_say_36 rfl ?_
            refine w_icmp_ge (tgt := 49) dX8_say_37 (by decide) (rfl : z5_.toInt = z5_.toInt) li_32 (fun h14_ => ?_) (fun h14_ => ?_)
            · refine w_iconst (v := 0) dX8_say_49 (by decide) ?_
              refine w_istore (ls' := [(8, vI 0), (7, vI z5_), (6, vI v6_6), (5, vI v5_6), (0, vR (8, 0, 0)), (1, vI v), (2, vI u), (3, vI t), (4, vI s)]) dX8_say_50 (by decide) rfl ?_
              refine w_iload dX8_say_52 0 rfl ?_
              refine w_if_eq (tgt := 80) dX8_say_54 (by decide) li_0 (fun h15_ => ?_) (fun h9 => (absurd h9 (by decide)))
              refine w_iload dX8_say_80 3 rfl ?_
              refine w_callS (as := [vI v5_6]) (rest := []) (c_X9_kindAbove l G cy ad (N + d) v5_6 M_6 hI_6) kS_X9_kindAbove (by decide +kernel) (Nat.le_of_ble_eq_true rfl) m_1196 rfl rfl (by decide) (Nat.le_of_ble_eq_true rfl) dX8_say_82 (fun r16_ M17_ q18_ => ?_)
              obtain ⟨rfl, h19_⟩ := q18_
              refine w_istore (ls' := [(5, vI r16_), (8, vI 0), (7, vI z5_), (6, vI v6_6), (0, vR (8, 0, 0)), (1, vI v), (2, vI u), (3, vI t), (4, vI s)]) dX8_say_85 (by decide) rfl ?_
              refine w_iincB (j := 3) (f := fun z20_ => [(6, vI z20_), (5, vI r16_), (8, vI 0), (7, vI z5_), (0, vR (8, 0, 0)), (1, vI v), (2, vI u), (3, vI t), (4, vI s)]) dX8_say_87 rfl (by decide) (fun _ => rfl) (rfl : v6_6.toInt = v6_6.toInt) li_1 (lf_c_X8_say_4 v6_6 hv0_6 hv1_6 h2_) (fun z20_ h21_ => ?_)
              refine w_goto (tgt := 6) dX8_say_90 (by decide) ?_
              refine w_loc (ls' := [(6, vI z20_), (5, vI r16_), (0, vR (8, 0, 0)), (1, vI v), (2, vI u), (3, vI t), (4, vI s)]) [0, 1, 4, 5, 6, 7, 8] rfl ?_
              exact ih_6 M_6 hI_6 hF_6 z20_ r16_ (lf_c_X8_say_5 v6_6 z20_ hv0_6 hv1_6 h2_ h21_) (lf_c_X8_say_6 v6_6 z20_ hv0_6 hv1_6 h2_ h21_) (Nat.lt_of_lt_of_le (lf_c_X8_say_7 v6_6 z20_ hv0_6 hv1_6 h2_ h21_) (Nat.le_of_lt_succ hm_6))
            · refine w_gets (k := 6) rfl m_1189 dX8_say_40 ?_
              refine w_iload dX8_say_43 0 rfl ?_
              refine w_iaT (k := 6) rfl (rfl : z5_.toInt = z5_.toInt) (lf_c_X8_say_8 z5_ h6_ h14_) dX8_say_45 (fun j24_ h25_ z22_ e23_ => ?_)
              have h26_ : z22_.toInt = 0 ∨ z22_.toInt = 10 ∨ z22_.toInt = 11 ∨ z22_.toInt = 12 ∨ z22_.toInt = 13 ∨ z22_.toInt = 20 ∨ z22_.toInt = 21 ∨ z22_.toInt = 30 ∨ z22_.toInt = 40 ∨ z22_.toInt = 41 ∨ z22_.toInt = 50 ∨ z22_.toInt = 60 ∨ z22_.toInt = 70 ∨ z22_.toInt = 71 ∨ z22_.toInt = 80 := by rw [e23_]; exact bodies_in j24_ (lf_c_X8_say_9 z5_ j24_ h6_ h14_ h25_)
              refine w_goto (tgt := 50) dX8_say_46 (by decide) ?_
              refine w_istore (ls' := [(8, vI z22_), (7, vI z5_), (6, vI v6_6), (5, vI v5_6), (0, vR (8, 0, 0)), (1, vI v), (2, vI u), (3, vI t), (4, vI s)]) dX8_say_50 (by decide) rfl ?_
              refine w_iload dX8_say_52 0 rfl ?_
              refine w_if_eq (tgt := 80) dX8_say_54 (by decide) (rfl : z22_.toInt = z22_.toInt) (fun h27_ => ?_) (fun h27_ => ?_)
              · refine w_iload dX8_say_80 3 rfl ?_
                refine w_callS (as := [vI v5_6]) (rest := []) (c_X9_kindAbove l G cy ad (N + d) v5_6 M_6 hI_6) kS_X9_kindAbove (by decide +kernel) (Nat.le_of_ble_eq_true rfl) m_1196 rfl rfl (by decide) (Nat.le_of_ble_eq_true rfl) dX8_say_82 (fun r28_ M29_ q30_ => ?_)
                obtain ⟨rfl, h31_⟩ := q30_
                refine w_istore (ls' := [(5, vI r28_), (8, vI z22_), (7, vI z5_), (6, vI v6_6), (0, vR (8, 0, 0)), (1, vI v), (2, vI u), (3, vI t), (4, vI s)]) dX8_say_85 (by decide) rfl ?_
                refine w_iincB (j := 3) (f := fun z32_ => [(6, vI z32_), (5, vI r28_), (8, vI z22_), (7, vI z5_), (0, vR (8, 0, 0)), (1, vI v), (2, vI u), (3, vI t), (4, vI s)]) dX8_say_87 rfl (by decide) (fun _ => rfl) (rfl : v6_6.toInt = v6_6.toInt) li_1 (lf_c_X8_say_10 v6_6 hv0_6 hv1_6 h2_) (fun z32_ h33_ => ?_)
                refine w_goto (tgt := 6) dX8_say_90 (by decide) ?_
                refine w_loc (ls' := [(6, vI z32_), (5, vI r28_), (0, vR (8, 0, 0)), (1, vI v), (2, vI u), (3, vI t), (4, vI s)]) [0, 1, 4, 5, 6, 7, 8] rfl ?_
                exact ih_6 M_6 hI_6 hF_6 z32_ r28_ (lf_c_X8_say_11 v6_6 z32_ hv0_6 hv1_6 h2_ h33_) (lf_c_X8_say_12 v6_6 z32_ hv0_6 hv1_6 h2_ h33_) (Nat.lt_of_lt_of_le (lf_c_X8_say_13 v6_6 z32_ hv0_6 hv1_6 h2_ h33_) (Nat.le_of_lt_succ hm_6))
              · refine w_iload dX8_say_57 8 rfl ?_
                refine w_bipush (v := 30) dX8_say_59 (by decide) ?_
                refine w_icmp_ge (tgt := 78) dX8_say_61 (by decide) (rfl : s.toInt = s.toInt) li_30 (fun h34_ => ?_) (fun h34_ => ?_)
                · refine w_iconst (v := 0) dX8_say_78 (by decide) ?_
                  exact w_iret rfl dX8_say_79 ⟨hI_6, hF_6, trivial⟩
                · refine w_aload_n dX8_say_64 rfl 4 rfl ?_
                  refine w_iload dX8_say_65 0 rfl ?_
                  refine w_iload_n dX8_say_67 rfl 7 rfl ?_
                  refine w_iload dX8_say_68 8 rfl ?_
                  refine w_iconst (v := 1) dX8_say_70 (by decide) ?_
                  refine w_iaddB dX8_say_71 (rfl : s.toInt = s.toInt) li_1 (lf_c_X8_say_14 m s hdp hd0 h34_) (fun z35_ h36_ => ?_)
                  refine w_callV (as := [vI z22_, vI t, vI z35_]) (rest := []) (hR (m - 1) (lf_c_X8_say_18 m s z35_ hdp hd0 h34_ h36_) d z22_ t z35_ M_6 hI_6 (lf_c_X8_say_15 m s z35_ hdp hd0 h34_ h36_) (lf_c_X8_say_16 m s z35_ hdp hd0 h34_ h36_) (lf_c_X8_say_17 z22_ h26_ h27_)) kV_X8_run (by decide +kernel) (Nat.le_of_ble_eq_true rfl) m_1191 rfl rfl rfl ic_8 rfl rfl (by decide) (Nat.le_of_ble_eq_true rfl) dX8_say_72 (fun r37_ M38_ q39_ => ?_)
                  obtain ⟨hI41_, hF42_, h40_⟩ := q39_
                  have hF43_ := hF_6.tr hF42_ (fun c k => (fun h => h.elim (fun h => (Or.inl ⟨h.1, h.2.1, h.2.2.1, h.2.2.2⟩)) (fun h => h.elim (fun h => (Or.inr (Or.inl ⟨h.1, h.2.1, h.2.2⟩))) (fun h => h.elim (fun h => (Or.inr (Or.inr (Or.inl ⟨h.1, h.2.1, h.2.2⟩)))) (fun h => h.elim)))))
                  refine w_goto (tgt := 79) dX8_say_75 (by decide) ?_
                  exact w_iret rfl dX8_say_79 ⟨hI41_, hF43_, trivial⟩
  exact lp1_ _ Mz hIz hFz 0 v (lf_c_X8_say_19 ) (lf_c_X8_say_20 ) (Nat.lt_succ_self _)
set_option maxHeartbeats 4000000 in
set_option maxRecDepth 100000 in
theorem c_X8_own (l : Launch) (G : va_G) (cy : Nat → ClassId) (ad : rf → Nat) (d : Nat) (N : Nat) (m : Nat) (v : Int32) (u : Int32) (t : Int32) (Mz : mM) (hIz : Inv Mz) (hS : SAYC l G cy ad N m) (hdp : t.toInt + ((m : Nat) : Int) = 30) (hd0 : 0 ≤ t.toInt ∧ t.toInt ≤ 30) : WP CC l G cy ad yX8_own cX8_own 4 (some .int) ((N + d) + 1) 0 [(0, vR (8, 0, 0)), (1, vI v), (2, vI u), (3, vI t)] [] Mz (fun r M' => Inv M' ∧ FR (S_voice) Mz M' ∧ True) := by
  have hFz : FR (S_voice) Mz Mz := FR.self
  refine w_aload_n dX8_own_0 rfl 0 rfl ?_
  refine w_aload_n dX8_own_1 rfl 0 rfl ?_
  refine w_getI fl_RX8_21 rfl rfl ic_8 dX8_own_2 (fun z1_ e2_ => ?_)
  refine w_iload_n dX8_own_5 rfl 1 rfl ?_
  refine w_iload_n dX8_own_6 rfl 2 rfl ?_
  refine w_iload_n dX8_own_7 rfl 3 rfl ?_
  refine w_callV (as := [vI z1_, vI v, vI u, vI t]) (rest := []) (hS d z1_ v u t Mz hIz hdp hd0) kV_X8_say (by decide +kernel) (Nat.le_of_ble_eq_true rfl) m_1185 rfl rfl rfl ic_8 rfl rfl (by decide) (Nat.le_of_ble_eq_true rfl) dX8_own_8 (fun r3_ M4_ q5_ => ?_)
  obtain ⟨hI7_, hF8_, h6_⟩ := q5_
  have hF9_ := hFz.tr hF8_ (fun c k => (fun h => h.elim (fun h => (Or.inl ⟨h.1, h.2.1, h.2.2.1, h.2.2.2⟩)) (fun h => h.elim (fun h => (Or.inr (Or.inl ⟨h.1, h.2.1, h.2.2⟩))) (fun h => h.elim (fun h => (Or.inr (Or.inr (Or.inl ⟨h.1, h.2.1, h.2.2⟩)))) (fun h => h.elim)))))
  exact w_iret rfl dX8_own_11 ⟨hI7_, hF9_, trivial⟩
theorem lf_c_X8_run_0  (v : Int32) (hbo : v.toInt = 10 ∨ v.toInt = 11 ∨ v.toInt = 12 ∨ v.toInt = 13 ∨ v.toInt = 20 ∨ v.toInt = 21 ∨ v.toInt = 30 ∨ v.toInt = 40 ∨ v.toInt = 41 ∨ v.toInt = 50 ∨ v.toInt = 60 ∨ v.toInt = 70 ∨ v.toInt = 71 ∨ v.toInt = 80) : v.toInt = 10 ∨ v.toInt = 11 ∨ v.toInt = 12 ∨ v.toInt = 13 ∨ v.toInt = 20 ∨ v.toInt = 21 ∨ v.toInt = 30 ∨ v.toInt = 40 ∨ v.toInt = 41 ∨ v.toInt = 50 ∨ v.toInt = 60 ∨ v.toInt = 70 ∨ v.toInt = 71 ∨ v.toInt = 80 := by have r_v := rngI v; omega
set_option maxHeartbeats 4000000 in
set_option maxRecDepth 100000 in
theorem c_X8_run (l : Launch) (G : va_G) (cy : Nat → ClassId) (ad : rf → Nat) (d : Nat) (N : Nat) (m : Nat) (v : Int32) (u : Int32) (t : Int32) (Mz : mM) (hIz : Inv Mz) (hS : SAYC l G cy ad N m) (hdp : t.toInt + ((m : Nat) : Int) = 30) (hd0 : 0 ≤ t.toInt ∧ t.toInt ≤ 30) (hbo : v.toInt = 10 ∨ v.toInt = 11 ∨ v.toInt = 12 ∨ v.toInt = 13 ∨ v.toInt = 20 ∨ v.toInt = 21 ∨ v.toInt = 30 ∨ v.toInt = 40 ∨ v.toInt = 41 ∨ v.toInt = 50 ∨ v.toInt = 60 ∨ v.toInt = 70 ∨ v.toInt = 71 ∨ v.toInt = 80) : WP CC l G cy ad yX8_run cX8_run 5 (some .int) ((N + d) + 2) 0 [(0, vR (8, 0, 0)), (1, vI v), (2, vI u), (3, vI t)] [] Mz (fun r M' => Inv M' ∧ FR (S_voice) Mz M' ∧ True) := by
  have hFz : FR (S_voice) Mz Mz := FR.self
  refine w_aload_n dX8_run_0 rfl 0 rfl ?_
  refine w_getR (c' := (5, 3, 4)) fl_RX8_12 rfl rfl ic_8 dX8_run_1 rfl ?_
  refine w_iload_n dX8_run_4 rfl 1 rfl ?_
  refine w_callVv (as := [vI v]) (rest := []) (c_X5_add l G cy ad ((N + d) + 1) 3 4 v Mz hIz (by first | decide | (unfold vF; omega) | (unfold vRw; omega))) kV_X5_add (by decide +kernel) (Nat.le_of_ble_eq_true rfl) m_1195 rfl rfl rfl (ic_5 (by unfold vRw; omega)) rfl rfl (by decide) (Nat.le_of_ble_eq_true rfl) dX8_run_5 (fun M1_ q2_ => ?_)
  obtain ⟨hI4_, hF5_, h3_⟩ := q2_
  have hF6_ := hFz.tr hF5_ (fun c k => (fun h => h.elim (fun h => (Or.inr (Or.inl ⟨h.1, h.2.1, h.2.2⟩))) (fun h => h.elim (fun h => (Or.inl ⟨h.1, h.2.1, h.2.2.1, h.2.2.2⟩)) (fun h => h.elim))))
  refine w_iload_n dX8_run_8 rfl 1 rfl ?_
  refine w_bipush (v := 10) dX8_run_9 (by decide) ?_
  refine w_idiv dX8_run_11 (by decide) (fun z7_ _ => ?_)
  refine w_iconst (v := 1) dX8_run_12 (by decide) ?_
  refine w_isub dX8_run_13 (fun z8_ _ => ?_)
  refine w_callS (as := [vI z8_]) (rest := []) (c_X9_kindAbove l G cy ad ((N + d) + 1) z8_ M1_ hI4_) kS_X9_kindAbove (by decide +kernel) (Nat.le_of_ble_eq_true rfl) m_1196 rfl rfl (by decide) (Nat.le_of_ble_eq_true rfl) dX8_run_14 (fun r9_ M10_ q11_ => ?_)
  obtain ⟨rfl, h12_⟩ := q11_
  refine w_istore (ls' := [(4, vI r9_), (0, vR (8, 0, 0)), (1, vI v), (2, vI u), (3, vI t)]) dX8_run_17 (by decide) rfl ?_
  refine w_iload_n dX8_run_19 rfl 2 rfl ?_
  rcases (lf_c_X8_run_0 v hbo) with e13_ | e13_ | e13_ | e13_ | e13_ | e13_ | e13_ | e13_ | e13_ | e13_ | e13_ | e13_ | e13_ | e13_
  · refine w_ls (tgt := 144) (off := 124) dX8_run_20 (by decide) e13_ rfl (by decide) ?_
    refine w_iload_n dX8_run_144 rfl 3 rfl ?_
    refine w_aload_n dX8_run_145 rfl 1 rfl ?_
    refine w_getI fl_RX8_28 rfl rfl ic_8 dX8_run_146 (fun z14_ e15_ => ?_)
    refine w_iadd dX8_run_149 (fun z16_ _ => ?_)
    exact w_iret rfl dX8_run_150 ⟨hI4_, hF6_, trivial⟩
  · refine w_ls (tgt := 151) (off := 131) dX8_run_20 (by decide) e13_ rfl (by decide) ?_
    refine w_aload_n dX8_run_151 rfl 1 rfl ?_
    refine w_iconst (v := 0) dX8_run_152 (by decide) ?_
    refine w_iload_n dX8_run_153 rfl 3 rfl ?_
    refine w_iload_n dX8_run_154 rfl 4 rfl ?_
    refine w_callV (as := [vI 0, vI u, vI t]) (rest := []) (c_X8_own l G cy ad d N m 0 u t M1_ hI4_ hS hdp hd0) kV_X8_own (by decide +kernel) (Nat.le_of_ble_eq_true rfl) m_1197 rfl rfl rfl ic_8 rfl rfl (by decide) (Nat.le_of_ble_eq_true rfl) dX8_run_155 (fun r17_ M18_ q19_ => ?_)
    obtain ⟨hI21_, hF22_, h20_⟩ := q19_
    have hF23_ := hF6_.tr hF22_ (fun c k => (fun h => h.elim (fun h => (Or.inl ⟨h.1, h.2.1, h.2.2.1, h.2.2.2⟩)) (fun h => h.elim (fun h => (Or.inr (Or.inl ⟨h.1, h.2.1, h.2.2⟩))) (fun h => h.elim (fun h => (Or.inr (Or.inr (Or.inl ⟨h.1, h.2.1, h.2.2⟩)))) (fun h => h.elim)))))
    refine w_iconst (v := 2) dX8_run_158 (by decide) ?_
    refine w_imul dX8_run_159 (fun z24_ _ => ?_)
    exact w_iret rfl dX8_run_160 ⟨hI21_, hF23_, trivial⟩
  · refine w_ls (tgt := 161) (off := 141) dX8_run_20 (by decide) e13_ rfl (by decide) ?_
    refine w_aload_n dX8_run_161 rfl 1 rfl ?_
    refine w_iconst (v := 1) dX8_run_162 (by decide) ?_
    refine w_iload_n dX8_run_163 rfl 3 rfl ?_
    refine w_iload_n dX8_run_164 rfl 4 rfl ?_
    refine w_callV (as := [vI 1, vI u, vI t]) (rest := []) (c_X8_own l G cy ad d N m 1 u t M1_ hI4_ hS hdp hd0) kV_X8_own (by decide +kernel) (Nat.le_of_ble_eq_true rfl) m_1197 rfl rfl rfl ic_8 rfl rfl (by decide) (Nat.le_of_ble_eq_true rfl) dX8_run_165 (fun r25_ M26_ q27_ => ?_)
    obtain ⟨hI29_, hF30_, h28_⟩ := q27_
    have hF31_ := hF6_.tr hF30_ (fun c k => (fun h => h.elim (fun h => (Or.inl ⟨h.1, h.2.1, h.2.2.1, h.2.2.2⟩)) (fun h => h.elim (fun h => (Or.inr (Or.inl ⟨h.1, h.2.1, h.2.2⟩))) (fun h => h.elim (fun h => (Or.inr (Or.inr (Or.inl ⟨h.1, h.2.1, h.2.2⟩)))) (fun h => h.elim)))))
    refine w_aload_n dX8_run_168 rfl 1 rfl ?_
    refine w_getI fl_RX8_25 rfl rfl ic_8 dX8_run_169 (fun z32_ e33_ => ?_)
    refine w_isub dX8_run_172 (fun z34_ _ => ?_)
    exact w_iret rfl dX8_run_173 ⟨hI29_, hF31_, trivial⟩
  · refine w_ls (tgt := 174) (off := 154) dX8_run_20 (by decide) e13_ rfl (by decide) ?_
    refine w_aload_n dX8_run_174 rfl 1 rfl ?_
    refine w_iload_n dX8_run_175 rfl 3 rfl ?_
    refine w_callV (as := [vI u]) (rest := []) (c_X8_parted l G cy ad ((N + d) + 1) u M1_ hI4_) kV_X8_parted (by decide +kernel) (Nat.le_of_ble_eq_true rfl) m_1201 rfl rfl rfl ic_8 rfl rfl (by decide) (Nat.le_of_ble_eq_true rfl) dX8_run_176 (fun r35_ M36_ q37_ => ?_)
    obtain ⟨hI39_, hF40_, h38_⟩ := q37_
    have hF41_ := hF6_.tr hF40_ (fun c k => (fun h => h.elim (fun h => (Or.inr (Or.inr (Or.inl ⟨h.1, h.2.1, h.2.2⟩)))) (fun h => h.elim)))
    exact w_iret rfl dX8_run_179 ⟨hI39_, hF41_, trivial⟩
  · refine w_ls (tgt := 180) (off := 160) dX8_run_20 (by decide) e13_ rfl (by decide) ?_
    refine w_aload_n dX8_run_180 rfl 1 rfl ?_
    refine w_iload dX8_run_181 0 rfl ?_
    refine w_iconst (v := 0) dX8_run_183 (by decide) ?_
    refine w_iload_n dX8_run_184 rfl 3 rfl ?_
    refine w_iload_n dX8_run_185 rfl 4 rfl ?_
    refine w_callV (as := [vI r9_, vI 0, vI u, vI t]) (rest := []) (hS (d + 1) r9_ 0 u t M1_ hI4_ hdp hd0) kV_X8_say (by decide +kernel) (Nat.le_of_ble_eq_true rfl) m_1185 rfl rfl rfl ic_8 rfl rfl (by decide) (Nat.le_of_ble_eq_true rfl) dX8_run_186 (fun r42_ M43_ q44_ => ?_)
    obtain ⟨hI46_, hF47_, h45_⟩ := q44_
    have hF48_ := hF6_.tr hF47_ (fun c k => (fun h => h.elim (fun h => (Or.inl ⟨h.1, h.2.1, h.2.2.1, h.2.2.2⟩)) (fun h => h.elim (fun h => (Or.inr (Or.inl ⟨h.1, h.2.1, h.2.2⟩))) (fun h => h.elim (fun h => (Or.inr (Or.inr (Or.inl ⟨h.1, h.2.1, h.2.2⟩)))) (fun h => h.elim)))))
    refine w_iconst (v := 3) dX8_run_189 (by decide) ?_
    refine w_imul dX8_run_190 (fun z49_ _ => ?_)
    exact w_iret rfl dX8_run_191 ⟨hI46_, hF48_, trivial⟩
  · refine w_ls (tgt := 192) (off := 172) dX8_run_20 (by decide) e13_ rfl (by decide) ?_
    refine w_aload_n dX8_run_192 rfl 1 rfl ?_
    refine w_iload dX8_run_193 0 rfl ?_
    refine w_iconst (v := 3) dX8_run_195 (by decide) ?_
    refine w_iload_n dX8_run_196 rfl 3 rfl ?_
    refine w_iload_n dX8_run_197 rfl 4 rfl ?_
    refine w_callV (as := [vI r9_, vI 3, vI u, vI t]) (rest := []) (hS (d + 1) r9_ 3 u t M1_ hI4_ hdp hd0) kV_X8_say (by decide +kernel) (Nat.le_of_ble_eq_true rfl) m_1185 rfl rfl rfl ic_8 rfl rfl (by decide) (Nat.le_of_ble_eq_true rfl) dX8_run_198 (fun r50_ M51_ q52_ => ?_)
    obtain ⟨hI54_, hF55_, h53_⟩ := q52_
    have hF56_ := hF6_.tr hF55_ (fun c k => (fun h => h.elim (fun h => (Or.inl ⟨h.1, h.2.1, h.2.2.1, h.2.2.2⟩)) (fun h => h.elim (fun h => (Or.inr (Or.inl ⟨h.1, h.2.1, h.2.2⟩))) (fun h => h.elim (fun h => (Or.inr (Or.inr (Or.inl ⟨h.1, h.2.1, h.2.2⟩)))) (fun h => h.elim)))))
    refine w_aload_n dX8_run_201 rfl 1 rfl ?_
    refine w_iconst (v := 2) dX8_run_202 (by decide) ?_
    refine w_iconst (v := 1) dX8_run_203 (by decide) ?_
    refine w_iload_n dX8_run_204 rfl 4 rfl ?_
    refine w_callV (as := [vI 2, vI 1, vI t]) (rest := [vI r50_]) (c_X8_own l G cy ad d N m 2 1 t M51_ hI54_ hS hdp hd0) kV_X8_own (by decide +kernel) (Nat.le_of_ble_eq_true rfl) m_1197 rfl rfl rfl ic_8 rfl rfl (by decide) (Nat.le_of_ble_eq_true rfl) dX8_run_205 (fun r57_ M58_ q59_ => ?_)
    obtain ⟨hI61_, hF62_, h60_⟩ := q59_
    have hF63_ := hF56_.tr hF62_ (fun c k => (fun h => h.elim (fun h => (Or.inl ⟨h.1, h.2.1, h.2.2.1, h.2.2.2⟩)) (fun h => h.elim (fun h => (Or.inr (Or.inl ⟨h.1, h.2.1, h.2.2⟩))) (fun h => h.elim (fun h => (Or.inr (Or.inr (Or.inl ⟨h.1, h.2.1, h.2.2⟩)))) (fun h => h.elim)))))
    refine w_iadd dX8_run_208 (fun z64_ _ => ?_)
    exact w_iret rfl dX8_run_209 ⟨hI61_, hF63_, trivial⟩
  · refine w_ls (tgt := 210) (off := 190) dX8_run_20 (by decide) e13_ rfl (by decide) ?_
    refine w_aload_n dX8_run_210 rfl 1 rfl ?_
    refine w_iload dX8_run_211 0 rfl ?_
    refine w_iconst (v := 1) dX8_run_213 (by decide) ?_
    refine w_iload_n dX8_run_214 rfl 3 rfl ?_
    refine w_iload_n dX8_run_215 rfl 4 rfl ?_
    refine w_callV (as := [vI r9_, vI 1, vI u, vI t]) (rest := []) (hS (d + 1) r9_ 1 u t M1_ hI4_ hdp hd0) kV_X8_say (by decide +kernel) (Nat.le_of_ble_eq_true rfl) m_1185 rfl rfl rfl ic_8 rfl rfl (by decide) (Nat.le_of_ble_eq_true rfl) dX8_run_216 (fun r65_ M66_ q67_ => ?_)
    obtain ⟨hI69_, hF70_, h68_⟩ := q67_
    have hF71_ := hF6_.tr hF70_ (fun c k => (fun h => h.elim (fun h => (Or.inl ⟨h.1, h.2.1, h.2.2.1, h.2.2.2⟩)) (fun h => h.elim (fun h => (Or.inr (Or.inl ⟨h.1, h.2.1, h.2.2⟩))) (fun h => h.elim (fun h => (Or.inr (Or.inr (Or.inl ⟨h.1, h.2.1, h.2.2⟩)))) (fun h => h.elim)))))
    refine w_aload_n dX8_run_219 rfl 1 rfl ?_
    refine w_getI fl_RX8_28 rfl rfl ic_8 dX8_run_220 (fun z72_ e73_ => ?_)
    refine w_ixor dX8_run_223 (fun z74_ _ => ?_)
    exact w_iret rfl dX8_run_224 ⟨hI69_, hF71_, trivial⟩
  · refine w_ls (tgt := 225) (off := 205) dX8_run_20 (by decide) e13_ rfl (by decide) ?_
    refine w_iconst (v := 0) dX8_run_225 (by decide) ?_
    refine w_aload_n dX8_run_226 rfl 1 rfl ?_
    refine w_iload dX8_run_227 0 rfl ?_
    refine w_iconst (v := 0) dX8_run_229 (by decide) ?_
    refine w_iload_n dX8_run_230 rfl 3 rfl ?_
    refine w_iload_n dX8_run_231 rfl 4 rfl ?_
    refine w_callV (as := [vI r9_, vI 0, vI u, vI t]) (rest := [vI 0]) (hS (d + 1) r9_ 0 u t M1_ hI4_ hdp hd0) kV_X8_say (by decide +kernel) (Nat.le_of_ble_eq_true rfl) m_1185 rfl rfl rfl ic_8 rfl rfl (by decide) (Nat.le_of_ble_eq_true rfl) dX8_run_232 (fun r75_ M76_ q77_ => ?_)
    obtain ⟨hI79_, hF80_, h78_⟩ := q77_
    have hF81_ := hF6_.tr hF80_ (fun c k => (fun h => h.elim (fun h => (Or.inl ⟨h.1, h.2.1, h.2.2.1, h.2.2.2⟩)) (fun h => h.elim (fun h => (Or.inr (Or.inl ⟨h.1, h.2.1, h.2.2⟩))) (fun h => h.elim (fun h => (Or.inr (Or.inr (Or.inl ⟨h.1, h.2.1, h.2.2⟩)))) (fun h => h.elim)))))
    refine w_isub dX8_run_235 (fun z82_ _ => ?_)
    exact w_iret rfl dX8_run_236 ⟨hI79_, hF81_, trivial⟩
  · refine w_ls (tgt := 237) (off := 217) dX8_run_20 (by decide) e13_ rfl (by decide) ?_
    refine w_aload_n dX8_run_237 rfl 1 rfl ?_
    refine w_iload dX8_run_238 0 rfl ?_
    refine w_iconst (v := 2) dX8_run_240 (by decide) ?_
    refine w_iload_n dX8_run_241 rfl 3 rfl ?_
    refine w_iload_n dX8_run_242 rfl 4 rfl ?_
    refine w_callV (as := [vI r9_, vI 2, vI u, vI t]) (rest := []) (hS (d + 1) r9_ 2 u t M1_ hI4_ hdp hd0) kV_X8_say (by decide +kernel) (Nat.le_of_ble_eq_true rfl) m_1185 rfl rfl rfl ic_8 rfl rfl (by decide) (Nat.le_of_ble_eq_true rfl) dX8_run_243 (fun r83_ M84_ q85_ => ?_)
    obtain ⟨hI87_, hF88_, h86_⟩ := q85_
    have hF89_ := hF6_.tr hF88_ (fun c k => (fun h => h.elim (fun h => (Or.inl ⟨h.1, h.2.1, h.2.2.1, h.2.2.2⟩)) (fun h => h.elim (fun h => (Or.inr (Or.inl ⟨h.1, h.2.1, h.2.2⟩))) (fun h => h.elim (fun h => (Or.inr (Or.inr (Or.inl ⟨h.1, h.2.1, h.2.2⟩)))) (fun h => h.elim)))))
    refine w_iconst (v := 5) dX8_run_246 (by decide) ?_
    refine w_iadd dX8_run_247 (fun z90_ _ => ?_)
    exact w_iret rfl dX8_run_248 ⟨hI87_, hF89_, trivial⟩
  · refine w_ls (tgt := 249) (off := 229) dX8_run_20 (by decide) e13_ rfl (by decide) ?_
    refine w_aload_n dX8_run_249 rfl 1 rfl ?_
    refine w_iload dX8_run_250 0 rfl ?_
    refine w_iconst (v := 2) dX8_run_252 (by decide) ?_
    refine w_iload_n dX8_run_253 rfl 3 rfl ?_
    refine w_iconst (v := 1) dX8_run_254 (by decide) ?_
    refine w_isub dX8_run_255 (fun z91_ _ => ?_)
    refine w_iload_n dX8_run_256 rfl 4 rfl ?_
    refine w_callV (as := [vI r9_, vI 2, vI z91_, vI t]) (rest := []) (hS (d + 1) r9_ 2 z91_ t M1_ hI4_ hdp hd0) kV_X8_say (by decide +kernel) (Nat.le_of_ble_eq_true rfl) m_1185 rfl rfl rfl ic_8 rfl rfl (by decide) (Nat.le_of_ble_eq_true rfl) dX8_run_257 (fun r92_ M93_ q94_ => ?_)
    obtain ⟨hI96_, hF97_, h95_⟩ := q94_
    have hF98_ := hF6_.tr hF97_ (fun c k => (fun h => h.elim (fun h => (Or.inl ⟨h.1, h.2.1, h.2.2.1, h.2.2.2⟩)) (fun h => h.elim (fun h => (Or.inr (Or.inl ⟨h.1, h.2.1, h.2.2⟩))) (fun h => h.elim (fun h => (Or.inr (Or.inr (Or.inl ⟨h.1, h.2.1, h.2.2⟩)))) (fun h => h.elim)))))
    exact w_iret rfl dX8_run_260 ⟨hI96_, hF98_, trivial⟩
  · refine w_ls (tgt := 261) (off := 241) dX8_run_20 (by decide) e13_ rfl (by decide) ?_
    refine w_aload_n dX8_run_261 rfl 1 rfl ?_
    refine w_iload dX8_run_262 0 rfl ?_
    refine w_iconst (v := 1) dX8_run_264 (by decide) ?_
    refine w_iload_n dX8_run_265 rfl 3 rfl ?_
    refine w_iconst (v := 2) dX8_run_266 (by decide) ?_
    refine w_iadd dX8_run_267 (fun z99_ _ => ?_)
    refine w_iload_n dX8_run_268 rfl 4 rfl ?_
    refine w_callV (as := [vI r9_, vI 1, vI z99_, vI t]) (rest := []) (hS (d + 1) r9_ 1 z99_ t M1_ hI4_ hdp hd0) kV_X8_say (by decide +kernel) (Nat.le_of_ble_eq_true rfl) m_1185 rfl rfl rfl ic_8 rfl rfl (by decide) (Nat.le_of_ble_eq_true rfl) dX8_run_269 (fun r100_ M101_ q102_ => ?_)
    obtain ⟨hI104_, hF105_, h103_⟩ := q102_
    have hF106_ := hF6_.tr hF105_ (fun c k => (fun h => h.elim (fun h => (Or.inl ⟨h.1, h.2.1, h.2.2.1, h.2.2.2⟩)) (fun h => h.elim (fun h => (Or.inr (Or.inl ⟨h.1, h.2.1, h.2.2⟩))) (fun h => h.elim (fun h => (Or.inr (Or.inr (Or.inl ⟨h.1, h.2.1, h.2.2⟩)))) (fun h => h.elim)))))
    exact w_iret rfl dX8_run_272 ⟨hI104_, hF106_, trivial⟩
  · refine w_ls (tgt := 273) (off := 253) dX8_run_20 (by decide) e13_ rfl (by decide) ?_
    refine w_aload_n dX8_run_273 rfl 1 rfl ?_
    refine w_iload dX8_run_274 0 rfl ?_
    refine w_iconst (v := 1) dX8_run_276 (by decide) ?_
    refine w_iload_n dX8_run_277 rfl 3 rfl ?_
    refine w_iload_n dX8_run_278 rfl 4 rfl ?_
    refine w_callV (as := [vI r9_, vI 1, vI u, vI t]) (rest := []) (hS (d + 1) r9_ 1 u t M1_ hI4_ hdp hd0) kV_X8_say (by decide +kernel) (Nat.le_of_ble_eq_true rfl) m_1185 rfl rfl rfl ic_8 rfl rfl (by decide) (Nat.le_of_ble_eq_true rfl) dX8_run_279 (fun r107_ M108_ q109_ => ?_)
    obtain ⟨hI111_, hF112_, h110_⟩ := q109_
    have hF113_ := hF6_.tr hF112_ (fun c k => (fun h => h.elim (fun h => (Or.inl ⟨h.1, h.2.1, h.2.2.1, h.2.2.2⟩)) (fun h => h.elim (fun h => (Or.inr (Or.inl ⟨h.1, h.2.1, h.2.2⟩))) (fun h => h.elim (fun h => (Or.inr (Or.inr (Or.inl ⟨h.1, h.2.1, h.2.2⟩)))) (fun h => h.elim)))))
    refine w_iconst (v := 2) dX8_run_282 (by decide) ?_
    refine w_idiv dX8_run_283 (by decide) (fun z114_ _ => ?_)
    exact w_iret rfl dX8_run_284 ⟨hI111_, hF113_, trivial⟩
  · refine w_ls (tgt := 285) (off := 265) dX8_run_20 (by decide) e13_ rfl (by decide) ?_
    refine w_aload_n dX8_run_285 rfl 1 rfl ?_
    refine w_iload dX8_run_286 0 rfl ?_
    refine w_iconst (v := 2) dX8_run_288 (by decide) ?_
    refine w_iload_n dX8_run_289 rfl 3 rfl ?_
    refine w_iload_n dX8_run_290 rfl 4 rfl ?_
    refine w_callV (as := [vI r9_, vI 2, vI u, vI t]) (rest := []) (hS (d + 1) r9_ 2 u t M1_ hI4_ hdp hd0) kV_X8_say (by decide +kernel) (Nat.le_of_ble_eq_true rfl) m_1185 rfl rfl rfl ic_8 rfl rfl (by decide) (Nat.le_of_ble_eq_true rfl) dX8_run_291 (fun r115_ M116_ q117_ => ?_)
    obtain ⟨hI119_, hF120_, h118_⟩ := q117_
    have hF121_ := hF6_.tr hF120_ (fun c k => (fun h => h.elim (fun h => (Or.inl ⟨h.1, h.2.1, h.2.2.1, h.2.2.2⟩)) (fun h => h.elim (fun h => (Or.inr (Or.inl ⟨h.1, h.2.1, h.2.2⟩))) (fun h => h.elim (fun h => (Or.inr (Or.inr (Or.inl ⟨h.1, h.2.1, h.2.2⟩)))) (fun h => h.elim)))))
    refine w_aload_n dX8_run_294 rfl 1 rfl ?_
    refine w_iconst (v := 0) dX8_run_295 (by decide) ?_
    refine w_iconst (v := 2) dX8_run_296 (by decide) ?_
    refine w_iload_n dX8_run_297 rfl 4 rfl ?_
    refine w_callV (as := [vI 0, vI 2, vI t]) (rest := [vI r115_]) (c_X8_own l G cy ad d N m 0 2 t M116_ hI119_ hS hdp hd0) kV_X8_own (by decide +kernel) (Nat.le_of_ble_eq_true rfl) m_1197 rfl rfl rfl ic_8 rfl rfl (by decide) (Nat.le_of_ble_eq_true rfl) dX8_run_298 (fun r122_ M123_ q124_ => ?_)
    obtain ⟨hI126_, hF127_, h125_⟩ := q124_
    have hF128_ := hF121_.tr hF127_ (fun c k => (fun h => h.elim (fun h => (Or.inl ⟨h.1, h.2.1, h.2.2.1, h.2.2.2⟩)) (fun h => h.elim (fun h => (Or.inr (Or.inl ⟨h.1, h.2.1, h.2.2⟩))) (fun h => h.elim (fun h => (Or.inr (Or.inr (Or.inl ⟨h.1, h.2.1, h.2.2⟩)))) (fun h => h.elim)))))
    refine w_isub dX8_run_301 (fun z129_ _ => ?_)
    exact w_iret rfl dX8_run_302 ⟨hI126_, hF128_, trivial⟩
  · refine w_ls (tgt := 303) (off := 283) dX8_run_20 (by decide) e13_ rfl (by decide) ?_
    refine w_aload_n dX8_run_303 rfl 1 rfl ?_
    refine w_iload dX8_run_304 0 rfl ?_
    refine w_iconst (v := 3) dX8_run_306 (by decide) ?_
    refine w_iload_n dX8_run_307 rfl 3 rfl ?_
    refine w_iload_n dX8_run_308 rfl 4 rfl ?_
    refine w_callV (as := [vI r9_, vI 3, vI u, vI t]) (rest := []) (hS (d + 1) r9_ 3 u t M1_ hI4_ hdp hd0) kV_X8_say (by decide +kernel) (Nat.le_of_ble_eq_true rfl) m_1185 rfl rfl rfl ic_8 rfl rfl (by decide) (Nat.le_of_ble_eq_true rfl) dX8_run_309 (fun r130_ M131_ q132_ => ?_)
    obtain ⟨hI134_, hF135_, h133_⟩ := q132_
    have hF136_ := hF6_.tr hF135_ (fun c k => (fun h => h.elim (fun h => (Or.inl ⟨h.1, h.2.1, h.2.2.1, h.2.2.2⟩)) (fun h => h.elim (fun h => (Or.inr (Or.inl ⟨h.1, h.2.1, h.2.2⟩))) (fun h => h.elim (fun h => (Or.inr (Or.inr (Or.inl ⟨h.1, h.2.1, h.2.2⟩)))) (fun h => h.elim)))))
    refine w_aload_n dX8_run_312 rfl 1 rfl ?_
    refine w_iconst (v := 1) dX8_run_313 (by decide) ?_
    refine w_iload_n dX8_run_314 rfl 3 rfl ?_
    refine w_iload_n dX8_run_315 rfl 4 rfl ?_
    refine w_callV (as := [vI 1, vI u, vI t]) (rest := [vI r130_]) (c_X8_own l G cy ad d N m 1 u t M131_ hI134_ hS hdp hd0) kV_X8_own (by decide +kernel) (Nat.le_of_ble_eq_true rfl) m_1197 rfl rfl rfl ic_8 rfl rfl (by decide) (Nat.le_of_ble_eq_true rfl) dX8_run_316 (fun r137_ M138_ q139_ => ?_)
    obtain ⟨hI141_, hF142_, h140_⟩ := q139_
    have hF143_ := hF136_.tr hF142_ (fun c k => (fun h => h.elim (fun h => (Or.inl ⟨h.1, h.2.1, h.2.2.1, h.2.2.2⟩)) (fun h => h.elim (fun h => (Or.inr (Or.inl ⟨h.1, h.2.1, h.2.2⟩))) (fun h => h.elim (fun h => (Or.inr (Or.inr (Or.inl ⟨h.1, h.2.1, h.2.2⟩)))) (fun h => h.elim)))))
    refine w_isub dX8_run_319 (fun z144_ _ => ?_)
    exact w_iret rfl dX8_run_320 ⟨hI141_, hF143_, trivial⟩
theorem voices_rec (l : Launch) (G : va_G) (cy : Nat → ClassId) (ad : rf → Nat) : ∀ m, SAYC l G cy ad (3 * m + 1) m ∧ RUNC l G cy ad (3 * m + 3) m := by
  intro m
  induction m with
  | zero =>
    have hS : SAYC l G cy ad (3 * 0 + 1) 0 := fun d v u t s Mz hIz hdp hd0 => w_dep (by omega) (c_X8_say l G cy ad d 0 0 v u t s Mz hIz (fun k hk => absurd hk (by omega)) hdp hd0)
    exact ⟨hS, fun d v u t Mz hIz hdp hd0 hbo => w_dep (by omega) (c_X8_run l G cy ad d (3 * 0 + 1) 0 v u t Mz hIz hS hdp hd0 hbo)⟩
  | succ m ih =>
    have hS : SAYC l G cy ad (3 * (m + 1) + 1) (m + 1) := fun d v u t s Mz hIz hdp hd0 => w_dep (by omega) (c_X8_say l G cy ad d (3 * m + 3) (m + 1) v u t s Mz hIz (fun k hk => by
      obtain rfl : k = m := by omega
      exact ih.2) hdp hd0)
    exact ⟨hS, fun d v u t Mz hIz hdp hd0 hbo => w_dep (by omega) (c_X8_run l G cy ad d (3 * (m + 1) + 1) (m + 1) v u t Mz hIz hS hdp hd0 hbo)⟩
theorem c_X8_say0 (l : Launch) (G : va_G) (cy : Nat → ClassId) (ad : rf → Nat) (d : Nat) (v u t s : Int32) (Mz : mM) (hIz : Inv Mz) (h0 : s.toInt = 0) : WP CC l G cy ad yX8_say cX8_say 9 (some .int) (d + 91) 0 [(0, vR (8, 0, 0)), (1, vI v), (2, vI u), (3, vI t), (4, vI s)] [] Mz (fun r M' => Inv M' ∧ FR (S_voice) Mz M' ∧ True) := w_dep (by omega) ((voices_rec l G cy ad 30).1 d v u t s Mz hIz (by omega) (by omega))
