section WPCI
variable {cls : List rf} {l : Launch} {G : va_G} {cy : Nat → ClassId} {ad : rf → Nat} {y : MethodName} {b : ByteArray} {n : Nat} {r : Option FieldType} {d : Nat} {pc : Nat} {ls : List (Nat × mV)} {st : List mV} {M : mM} {Q : Int32 → mM → Prop}
/-- String.checkIndex within its bounds -/
theorem w_checkIndex {x w : Int32} {c0 : Int} {idx : Nat} (hl : Cond.methodLink y.cls idx yS_checkIndex ∈ BASE) (h : 0 ≤ x.toInt ∧ x.toInt < c0) (hw : w.toInt = c0) (hs : st.length ≤ 4) (hd1 : 3 ≤ d) (hd : decode b pc = .ok (.invokestatic idx, 3)) (kk : WP cls l G cy ad y b n r d (pc + 3) ls st M Q) : WP cls l G cy ad y b n r d pc ls (vI w :: vI x :: st) M Q := by
  intro p e s m args below meth c A X lsA H locs hl2 hP hS
  have hX := X
  obtain ⟨hx, hb, hr, hml, hts, hown, hlk, hE, hT, hA⟩ := X
  have hF := WO_free hP hS hA
  have hcat := catsum ad st
  refine va_callv (va_runS (rest := st.map (gv ad)) ⟨hx, hb, hml, hown, hts⟩ (met_CI (M := M) rfl hw h m_793 m_1610 kS_P_checkIndex H.size) (va_cwS 2 hts (gS kS_S_checkIndex hl) rfl rfl rfl kS_S_checkIndex.2.2.2 ⟨by show 1 + 1 ≤ d; omega, by show 8 + (2 + 11) + 100 * 1 ≤ 100 * d; omega⟩) ⟨PG_blind, PG_of hS hT hP.1 hP.2 hE⟩ rfl rfl hl2.1 rfl (lv_room (by omega)) hd ⟨Nat.le_refl _, Nat.le_refl _⟩) hS (fun q _ h => hF q h) hF (fun u t H1 locs1 ht hvm hpo hB hz hkp hS1 => ?_)
  subst ht
  subst hpo
  exact kk p e s m args below meth c A hX lsA _ locs1 hl2 (WO_up hB hF) hS1
end WPCI
def SP_SL_canEncode_0 (v : Int32) (Mz : mM) (r_ : Int32) : Prop := (((v.toInt < 0) ∧ r_ = 0) ∨ ((0 ≤ v.toInt) ∧ (((255 < v.toInt) ∧ r_ = 0) ∨ ((v.toInt ≤ 255) ∧ r_ = 1))))
set_option maxHeartbeats 4000000 in
set_option maxRecDepth 100000 in
theorem c_SL_canEncode_0 {cls : List rf} (l : Launch) (G : va_G) (cy : Nat → ClassId) (ad : rf → Nat) (d : Nat) (v : Int32) (Mz : mM) : WP cls l G cy ad ySL_canEncode cSL_canEncode 1 (some .boolean) d 0 [(0, vI v)] [] Mz (fun r M' => Mz = M' ∧ ((0 ≤ r.toInt ∧ r.toInt ≤ 1)) ∧ SP_SL_canEncode_0 v Mz r) := by
  refine w_iload_n dSL_canEncode_0 rfl 0 rfl ?_
  refine w_if_lt (tgt := 15) dSL_canEncode_1 (by decide) (rfl : v.toInt = v.toInt) (fun h1_ => ?_) (fun h1_ => ?_)
  · refine w_iconst (v := 0) dSL_canEncode_15 (by decide) ?_
    exact w_zret rfl dSL_canEncode_16 ⟨by decide, by decide⟩ ⟨rfl, ⟨by decide, by decide⟩, (Or.inl ⟨h1_, rfl⟩)⟩
  · refine w_iload_n dSL_canEncode_4 rfl 0 rfl ?_
    refine w_sipush (v := 255) dSL_canEncode_5 (by decide) ?_
    refine w_icmp_gt (tgt := 15) dSL_canEncode_8 (by decide) (rfl : v.toInt = v.toInt) li_255 (fun h2_ => ?_) (fun h2_ => ?_)
    · refine w_iconst (v := 0) dSL_canEncode_15 (by decide) ?_
      exact w_zret rfl dSL_canEncode_16 ⟨by decide, by decide⟩ ⟨rfl, ⟨by decide, by decide⟩, (Or.inr ⟨h1_, (Or.inl ⟨h2_, rfl⟩)⟩)⟩
    · refine w_iconst (v := 1) dSL_canEncode_11 (by decide) ?_
      refine w_goto (tgt := 16) dSL_canEncode_12 (by decide) ?_
      exact w_zret rfl dSL_canEncode_16 ⟨by decide, by decide⟩ ⟨rfl, ⟨by decide, by decide⟩, (Or.inr ⟨h1_, (Or.inr ⟨h2_, rfl⟩)⟩)⟩
def SP_S_coder_0 (Mz : mM) (r_ : Int32) : Prop := r_ = 0
set_option maxHeartbeats 4000000 in
set_option maxRecDepth 100000 in
theorem c_S_coder_0 {cls : List rf} (l : Launch) (G : va_G) (cy : Nat → ClassId) (ad : rf → Nat) (d : Nat) (Mz : mM) : WP cls l G cy ad yS_coder cS_coder 1 (some .byte) d 0 [(0, vR (91, 0, 0))] [] Mz (fun r M' => Mz = M' ∧ (r = 0) ∧ SP_S_coder_0 Mz r) := by
  refine w_getsC m_752 dS_coder_0 ?_
  refine w_if_eq (tgt := 13) dS_coder_3 (by decide) li_1 (fun h9 => (absurd h9 (by decide))) (fun h1_ => ?_)
  refine w_aload_n dS_coder_6 rfl 0 rfl ?_
  refine w_getSc (k := 0) rfl m_1871 dS_coder_7 ?_
  refine w_goto (tgt := 14) dS_coder_10 (by decide) ?_
  exact w_bret (ty := .byte) rfl dS_coder_14 rfl ⟨rfl, rfl, rfl⟩
def SP_S_isLatin1_0 (Mz : mM) (r_ : Int32) : Prop := r_ = 1
set_option maxHeartbeats 4000000 in
set_option maxRecDepth 100000 in
theorem c_S_isLatin1_0 {cls : List rf} (l : Launch) (G : va_G) (cy : Nat → ClassId) (ad : rf → Nat) (d : Nat) (Mz : mM) : WP cls l G cy ad yS_isLatin1 cS_isLatin1 1 (some .boolean) d 0 [(0, vR (91, 0, 0))] [] Mz (fun r M' => Mz = M' ∧ (r = 1) ∧ SP_S_isLatin1_0 Mz r) := by
  refine w_getsC m_752 dS_isLatin1_0 ?_
  refine w_if_eq (tgt := 17) dS_isLatin1_3 (by decide) li_1 (fun h9 => (absurd h9 (by decide))) (fun h1_ => ?_)
  refine w_aload_n dS_isLatin1_6 rfl 0 rfl ?_
  refine w_getSc (k := 0) rfl m_1871 dS_isLatin1_7 ?_
  refine w_if_ne (tgt := 17) dS_isLatin1_10 (by decide) li_0 (fun h9 => (absurd h9 (by decide))) (fun h2_ => ?_)
  refine w_iconst (v := 1) dS_isLatin1_13 (by decide) ?_
  refine w_goto (tgt := 18) dS_isLatin1_14 (by decide) ?_
  exact w_zret rfl dS_isLatin1_18 ⟨by decide, by decide⟩ ⟨rfl, rfl, rfl⟩
def SP_S_length_0 (Mz : mM) (r_ : Int32) : Prop := (SP_S_coder_0 Mz (0 : Int32)) ∧ r_ = 0
set_option maxHeartbeats 4000000 in
set_option maxRecDepth 100000 in
theorem c_S_length_0 {cls : List rf} (l : Launch) (G : va_G) (cy : Nat → ClassId) (ad : rf → Nat) (d : Nat) (Mz : mM) : WP cls l G cy ad yS_length cS_length 1 (some .int) (d + 1) 0 [(0, vR (91, 0, 0))] [] Mz (fun r M' => Mz = M' ∧ (r = 0) ∧ SP_S_length_0 Mz r) := by
  refine w_aload_n dS_length_0 rfl 0 rfl ?_
  refine w_getSv (k := 0) rfl m_1872 dS_length_1 ?_
  refine w_alenS (k := 0) (v := 0) rfl dS_length_4 rfl ?_
  refine w_aload_n dS_length_5 rfl 0 rfl ?_
  refine w_callStr (k := 0) rfl (as := []) (rest := [vI 0]) (c_S_coder_0 l G cy ad d Mz) kV_S_coder (by decide +kernel) rfl (Nat.le_of_ble_eq_true rfl) m_758 rfl rfl (by decide) (Nat.le_of_ble_eq_true rfl) dS_length_6 (fun r1_ M2_ q3_ => ?_)
  obtain ⟨rfl, h4_, hs5_⟩ := q3_
  subst h4_
  refine w_ishr dS_length_9 (fun z6_ h7_ => ?_)
  obtain rfl : z6_ = 0 := h7_.trans (by decide)
  exact w_iret rfl dS_length_10 ⟨rfl, rfl, ⟨hs5_, rfl⟩⟩
def SP_SL_charAt_0 (v : Int32) (Mz : mM) (r_ : Int32) : Prop := ∃ z1_j : Nat, ((z1_j : Int) = v.toInt) ∧ ∃ z1_ : Int32, (z1_ = ([] : List Int32).getD z1_j 0) ∧ ∃ z2_ : Int32, (z2_ = z1_ &&& (255 : Int32)) ∧ (0 ≤ z2_.toInt ∧ z2_.toInt < ((2 ^ 8 : Nat) : Int)) ∧ ∃ z5_ : Int32, (z5_ = (z2_.toUInt32 % 65536).toInt32) ∧ (narrow .char (.int z5_) = .int z5_) ∧ r_ = z5_
theorem lf_c_SL_charAt_0_0  (v : Int32) (hv : 0 ≤ v.toInt ∧ v.toInt < 0) : 0 ≤ v.toInt ∧ v.toInt < 0 := by have r_v := rngI v; omega
theorem lf_c_SL_charAt_0_1  (v : Int32) (hv : 0 ≤ v.toInt ∧ v.toInt < 0) : 0 ≤ v.toInt ∧ v.toInt < 0 := by have r_v := rngI v; omega
set_option maxHeartbeats 4000000 in
set_option maxRecDepth 100000 in
theorem c_SL_charAt_0 {cls : List rf} (l : Launch) (G : va_G) (cy : Nat → ClassId) (ad : rf → Nat) (d : Nat) (v : Int32) (Mz : mM) (hv : 0 ≤ v.toInt ∧ v.toInt < 0) : WP cls l G cy ad ySL_charAt cSL_charAt 2 (some .char) (d + 3) 0 [(0, vR (90, 10, 0)), (1, vI v)] [] Mz (fun r M' => Mz = M' ∧ (narrow .char (.int r) = .int r) ∧ SP_SL_charAt_0 v Mz r) := by
  refine w_iload_n dSL_charAt_0 rfl 1 rfl ?_
  refine w_aload_n dSL_charAt_1 rfl 0 rfl ?_
  refine w_alenS (k := 0) (v := 0) rfl dSL_charAt_2 rfl ?_
  refine w_checkIndex m_1607 (lf_c_SL_charAt_0_0 v hv) li_0 (Nat.le_of_ble_eq_true rfl) (by omega) dSL_charAt_3 ?_
  refine w_aload_n dSL_charAt_6 rfl 0 rfl ?_
  refine w_iload_n dSL_charAt_7 rfl 1 rfl ?_
  refine w_baldS (k := 0) rfl (rfl : v.toInt = v.toInt) (lf_c_SL_charAt_0_1 v hv) dSL_charAt_8 (fun z1_j z1_k z1_ z1_h => ?_)
  refine w_sipush (v := 255) dSL_charAt_9 (by decide) ?_
  refine w_iand dSL_charAt_12 (fun z2_ h4_ => ?_)
  have h3_ : 0 ≤ z2_.toInt ∧ z2_.toInt < ((2 ^ 8 : Nat) : Int) := by rw [h4_]; exact andI _ 8 (by decide) (by decide)
  refine w_i2c dSL_charAt_13 (fun z5_ h6_ => ?_)
  have h7_ : narrow .char (.int z5_) = .int z5_ := by rw [h6_]; exact nar_c _
  exact w_bret (ty := .char) rfl dSL_charAt_14 h7_ ⟨rfl, h7_, ⟨z1_j, z1_k, z1_, z1_h, z2_, h4_, h3_, z5_, h6_, h7_, rfl⟩⟩
def SP_S_charAt_0 (v : Int32) (Mz : mM) (r_ : Int32) : Prop := (SP_S_isLatin1_0 Mz (1 : Int32)) ∧ ∃ r7_ : Int32, (SP_SL_charAt_0 v Mz r7_) ∧ (narrow .char (.int r7_) = .int r7_) ∧ r_ = r7_
set_option maxHeartbeats 4000000 in
set_option maxRecDepth 100000 in
theorem c_S_charAt_0 {cls : List rf} (l : Launch) (G : va_G) (cy : Nat → ClassId) (ad : rf → Nat) (d : Nat) (v : Int32) (Mz : mM) (hv : 0 ≤ v.toInt ∧ v.toInt < 0) : WP cls l G cy ad yS_charAt cS_charAt 2 (some .char) (d + 4) 0 [(0, vR (91, 0, 0)), (1, vI v)] [] Mz (fun r M' => Mz = M' ∧ (narrow .char (.int r) = .int r) ∧ SP_S_charAt_0 v Mz r) := by
  refine w_aload_n dS_charAt_0 rfl 0 rfl ?_
  refine w_callStr (k := 0) rfl (as := []) (rest := []) (c_S_isLatin1_0 l G cy ad (d + 3) Mz) kV_S_isLatin1 (by decide +kernel) rfl (Nat.le_of_ble_eq_true rfl) m_748 rfl rfl (by decide) (Nat.le_of_ble_eq_true rfl) dS_charAt_1 (fun r1_ M2_ q3_ => ?_)
  obtain ⟨rfl, h4_, hs5_⟩ := q3_
  subst h4_
  refine w_if_eq (tgt := 16) dS_charAt_4 (by decide) li_1 (fun h9 => (absurd h9 (by decide))) (fun h6_ => ?_)
  refine w_aload_n dS_charAt_7 rfl 0 rfl ?_
  refine w_getSv (k := 0) rfl m_1872 dS_charAt_8 ?_
  refine w_iload_n dS_charAt_11 rfl 1 rfl ?_
  refine w_callS (as := [vR (90, 10, 0), vI v]) (rest := []) (c_SL_charAt_0 l G cy ad d v Mz hv) kS_SL_charAt (by decide +kernel) (Nat.le_of_ble_eq_true rfl) m_1604 rfl rfl (by decide) (Nat.le_of_ble_eq_true rfl) dS_charAt_12 (fun r7_ M8_ q9_ => ?_)
  obtain ⟨rfl, h10_, hs11_⟩ := q9_
  exact w_bret (ty := .char) rfl dS_charAt_15 h10_ ⟨rfl, h10_, ⟨hs5_, r7_, hs11_, h10_, rfl⟩⟩
def ST_SL_indexOfChar_0_7 (v5_7 : Int32) (v5_7y : Int32) : Prop := False
def SP_SL_indexOfChar_0 (v : Int32) (u : Int32) (t : Int32) (Mz : mM) (r_ : Int32) : Prop := ∃ z1_ : Int32, (z1_ = v.toInt8.toInt32) ∧ ∃ v5_7 : Int32, (0 ≤ v5_7.toInt) ∧ (RCH (fun x_ y_ => ST_SL_indexOfChar_0_7 x_ y_) u v5_7) ∧ (t.toInt ≤ v5_7.toInt) ∧ r_ = (-1)
theorem lf_c_SL_indexOfChar_0_0  (t : Int32) (v5_7 : Int32) (ht : t.toInt ≤ 0) (hv0_7 : 0 ≤ v5_7.toInt) (h9 : v5_7.toInt < t.toInt) : False := by have r_t := rngI t; have r_v5_7 := rngI v5_7; omega
set_option maxHeartbeats 4000000 in
set_option maxRecDepth 100000 in
theorem c_SL_indexOfChar_0 {cls : List rf} (l : Launch) (G : va_G) (cy : Nat → ClassId) (ad : rf → Nat) (d : Nat) (v : Int32) (u : Int32) (t : Int32) (Mz : mM) (hu : 0 ≤ u.toInt) (ht : t.toInt ≤ 0) : WP cls l G cy ad ySL_indexOfChar cSL_indexOfChar 6 (some .int) d 0 [(0, vR (90, 10, 0)), (1, vI v), (2, vI u), (3, vI t)] [] Mz (fun r M' => Mz = M' ∧ (True) ∧ SP_SL_indexOfChar_0 v u t Mz r) := by
  refine w_iload_n dSL_indexOfChar_0 rfl 1 rfl ?_
  refine w_i2b dSL_indexOfChar_1 (fun z1_ h2_ => ?_)
  refine w_istore (ls' := [(4, vI z1_), (0, vR (90, 10, 0)), (1, vI v), (2, vI u), (3, vI t)]) dSL_indexOfChar_2 (by decide) rfl ?_
  refine w_iload_n dSL_indexOfChar_4 rfl 3 rfl ?_
  refine w_istore (ls' := [(5, vI u), (4, vI z1_), (0, vR (90, 10, 0)), (1, vI v), (2, vI u), (3, vI t)]) dSL_indexOfChar_5 (by decide) rfl ?_
  have lp3_ : ∀ (nn_7 : Nat) (v5_7 : Int32) (hv0_7 : 0 ≤ v5_7.toInt) (hL_7 : RCH (fun x_ y_ => ST_SL_indexOfChar_0_7 x_ y_) u v5_7), (t.toInt - v5_7.toInt).toNat < nn_7 → WP cls l G cy ad ySL_indexOfChar cSL_indexOfChar 6 (some .int) d 7 [(5, vI v5_7), (4, vI z1_), (0, vR (90, 10, 0)), (1, vI v), (2, vI u), (3, vI t)] [] Mz (fun r M' => Mz = M' ∧ (True) ∧ SP_SL_indexOfChar_0 v u t Mz r) := by
    intro nn_7
    induction nn_7 with
    | zero => intro v5_7 hv0_7 hL_7 hm_7; exact absurd hm_7 (Nat.not_lt_zero _)
    | succ nn_7 ih_7 =>
      intro v5_7 hv0_7 hL_7 hm_7
      refine w_iload dSL_indexOfChar_7 0 rfl ?_
      refine w_iload_n dSL_indexOfChar_9 rfl 5 rfl ?_
      refine w_icmp_ge (tgt := 31) dSL_indexOfChar_10 (by decide) (rfl : v5_7.toInt = v5_7.toInt) (rfl : t.toInt = t.toInt) (fun h4_ => ?_) (fun h9 => (lf_c_SL_indexOfChar_0_0 t v5_7 ht hv0_7 h9).elim)
      refine w_iconst (v := (-1)) dSL_indexOfChar_31 (by decide) ?_
      exact w_iret rfl dSL_indexOfChar_32 ⟨rfl, trivial, ⟨z1_, h2_, v5_7, hv0_7, hL_7, h4_, rfl⟩⟩
  exact lp3_ _ u hu RCH.refl (Nat.lt_succ_self _)
def SP_SL_indexOf_0 (v : Int32) (u : Int32) (t : Int32) (Mz : mM) (r_ : Int32) : Prop := ∃ r1_ : Int32, (SP_SL_canEncode_0 v Mz r1_) ∧ ((0 ≤ r1_.toInt ∧ r1_.toInt ≤ 1)) ∧ (((¬ r1_.toInt = 0) ∧ ∃ z7_ : Int32, ((z7_.toInt = u.toInt ∧ 0 ≤ u.toInt) ∨ (z7_.toInt = 0 ∧ u.toInt ≤ 0)) ∧ ∃ z9_ : Int32, ((z9_.toInt = t.toInt ∧ t.toInt ≤ 0) ∨ (z9_.toInt = 0 ∧ 0 ≤ t.toInt)) ∧ (z9_.toInt ≤ z7_.toInt) ∧ r_ = (-1)) ∨ ((r1_.toInt = 0) ∧ r_ = (-1)))
theorem lf_c_SL_indexOf_0_0  (u : Int32) (t : Int32) (z7_ : Int32) (z9_ : Int32) (h8_ : (z7_.toInt = u.toInt ∧ 0 ≤ u.toInt) ∨ (z7_.toInt = 0 ∧ u.toInt ≤ 0)) (h10_ : (z9_.toInt = t.toInt ∧ t.toInt ≤ 0) ∨ (z9_.toInt = 0 ∧ 0 ≤ t.toInt)) (h9 : z7_.toInt < z9_.toInt) : False := by have r_u := rngI u; have r_t := rngI t; have r_z7_ := rngI z7_; have r_z9_ := rngI z9_; omega
set_option maxHeartbeats 4000000 in
set_option maxRecDepth 100000 in
theorem c_SL_indexOf_0 {cls : List rf} (l : Launch) (G : va_G) (cy : Nat → ClassId) (ad : rf → Nat) (d : Nat) (v : Int32) (u : Int32) (t : Int32) (Mz : mM) : WP cls l G cy ad ySL_indexOf cSL_indexOf 4 (some .int) (d + 1) 0 [(0, vR (90, 10, 0)), (1, vI v), (2, vI u), (3, vI t)] [] Mz (fun r M' => Mz = M' ∧ (True) ∧ SP_SL_indexOf_0 v u t Mz r) := by
  refine w_iload_n dSL_indexOf_0 rfl 1 rfl ?_
  refine w_callS (as := [vI v]) (rest := []) (c_SL_canEncode_0 l G cy ad d v Mz) kS_SL_canEncode (by decide +kernel) (Nat.le_of_ble_eq_true rfl) m_765 rfl rfl (by decide) (Nat.le_of_ble_eq_true rfl) dSL_indexOf_1 (fun r1_ M2_ q3_ => ?_)
  obtain ⟨rfl, h4_, hs5_⟩ := q3_
  refine w_if_ne (tgt := 9) dSL_indexOf_4 (by decide) (rfl : r1_.toInt = r1_.toInt) (fun h6_ => ?_) (fun h6_ => ?_)
  · refine w_iload_n dSL_indexOf_9 rfl 2 rfl ?_
    refine w_iconst (v := 0) dSL_indexOf_10 (by decide) ?_
    refine w_max m_768 m_206 m_86 m_207 (rfl : u.toInt = u.toInt) li_0 (Nat.le_of_ble_eq_true rfl) (by omega) dSL_indexOf_11 (fun z7_ h8_ => ?_)
    refine w_istore_n (ls' := [(2, vI z7_), (0, vR (90, 10, 0)), (1, vI v), (3, vI t)]) dSL_indexOf_14 rfl (by decide) rfl ?_
    refine w_iload_n dSL_indexOf_15 rfl 3 rfl ?_
    refine w_aload_n dSL_indexOf_16 rfl 1 rfl ?_
    refine w_alenS (k := 0) (v := 0) rfl dSL_indexOf_17 rfl ?_
    refine w_min m_769 m_770 m_86 m_771 (rfl : t.toInt = t.toInt) li_0 (Nat.le_of_ble_eq_true rfl) (by omega) dSL_indexOf_18 (fun z9_ h10_ => ?_)
    refine w_istore_n (ls' := [(3, vI z9_), (2, vI z7_), (0, vR (90, 10, 0)), (1, vI v)]) dSL_indexOf_21 rfl (by decide) rfl ?_
    refine w_iload_n dSL_indexOf_22 rfl 1 rfl ?_
    refine w_iload_n dSL_indexOf_23 rfl 0 rfl ?_
    refine w_icmp_lt (tgt := 29) dSL_indexOf_24 (by decide) (rfl : z7_.toInt = z7_.toInt) (rfl : z9_.toInt = z9_.toInt) (fun h9 => (lf_c_SL_indexOf_0_0 u t z7_ z9_ h8_ h10_ h9).elim) (fun h11_ => ?_)
    refine w_iconst (v := (-1)) dSL_indexOf_27 (by decide) ?_
    exact w_iret rfl dSL_indexOf_28 ⟨rfl, trivial, ⟨r1_, hs5_, h4_, (Or.inl ⟨h6_, z7_, h8_, z9_, h10_, h11_, rfl⟩)⟩⟩
  · refine w_iconst (v := (-1)) dSL_indexOf_7 (by decide) ?_
    exact w_iret rfl dSL_indexOf_8 ⟨rfl, trivial, ⟨r1_, hs5_, h4_, (Or.inr ⟨h6_, rfl⟩)⟩⟩
def SP_S_indexOf2_0 (v : Int32) (u : Int32) (Mz : mM) (r_ : Int32) : Prop := (SP_S_isLatin1_0 Mz (1 : Int32)) ∧ (SP_S_length_0 Mz (0 : Int32)) ∧ ∃ r12_ : Int32, (SP_SL_indexOf_0 v u 0 Mz r12_) ∧ r_ = r12_
set_option maxHeartbeats 4000000 in
set_option maxRecDepth 100000 in
theorem c_S_indexOf2_0 {cls : List rf} (l : Launch) (G : va_G) (cy : Nat → ClassId) (ad : rf → Nat) (d : Nat) (v : Int32) (u : Int32) (Mz : mM) : WP cls l G cy ad yS_indexOf2 cS_indexOf2 3 (some .int) (d + 2) 0 [(0, vR (91, 0, 0)), (1, vI v), (2, vI u)] [] Mz (fun r M' => Mz = M' ∧ (True) ∧ SP_S_indexOf2_0 v u Mz r) := by
  refine w_aload_n dS_indexOf2_0 rfl 0 rfl ?_
  refine w_callStr (k := 0) rfl (as := []) (rest := []) (c_S_isLatin1_0 l G cy ad (d + 1) Mz) kV_S_isLatin1 (by decide +kernel) rfl (Nat.le_of_ble_eq_true rfl) m_748 rfl rfl (by decide) (Nat.le_of_ble_eq_true rfl) dS_indexOf2_1 (fun r1_ M2_ q3_ => ?_)
  obtain ⟨rfl, h4_, hs5_⟩ := q3_
  subst h4_
  refine w_if_eq (tgt := 23) dS_indexOf2_4 (by decide) li_1 (fun h9 => (absurd h9 (by decide))) (fun h6_ => ?_)
  refine w_aload_n dS_indexOf2_7 rfl 0 rfl ?_
  refine w_getSv (k := 0) rfl m_1872 dS_indexOf2_8 ?_
  refine w_iload_n dS_indexOf2_11 rfl 1 rfl ?_
  refine w_iload_n dS_indexOf2_12 rfl 2 rfl ?_
  refine w_aload_n dS_indexOf2_13 rfl 0 rfl ?_
  refine w_callStr (k := 0) rfl (as := []) (rest := [vI u, vI v, vR (90, 10, 0)]) (c_S_length_0 l G cy ad d Mz) kV_S_length (by decide +kernel) rfl (Nat.le_of_ble_eq_true rfl) m_754 rfl rfl (by decide) (Nat.le_of_ble_eq_true rfl) dS_indexOf2_14 (fun r7_ M8_ q9_ => ?_)
  obtain ⟨rfl, h10_, hs11_⟩ := q9_
  subst h10_
  refine w_callS (as := [vR (90, 10, 0), vI v, vI u, vI 0]) (rest := []) (c_SL_indexOf_0 l G cy ad d v u 0 Mz) kS_SL_indexOf (by decide +kernel) (Nat.le_of_ble_eq_true rfl) m_762 rfl rfl (by decide) (Nat.le_of_ble_eq_true rfl) dS_indexOf2_17 (fun r12_ M13_ q14_ => ?_)
  obtain ⟨rfl, h15_, hs16_⟩ := q14_
  refine w_goto (tgt := 36) dS_indexOf2_20 (by decide) ?_
  exact w_iret rfl dS_indexOf2_36 ⟨rfl, trivial, ⟨hs5_, hs11_, r12_, hs16_, rfl⟩⟩
def SP_S_indexOf_0 (v : Int32) (Mz : mM) (r_ : Int32) : Prop := ∃ r1_ : Int32, (SP_S_indexOf2_0 v 0 Mz r1_) ∧ r_ = r1_
set_option maxHeartbeats 4000000 in
set_option maxRecDepth 100000 in
theorem c_S_indexOf_0 {cls : List rf} (l : Launch) (G : va_G) (cy : Nat → ClassId) (ad : rf → Nat) (d : Nat) (v : Int32) (Mz : mM) : WP cls l G cy ad yS_indexOf cS_indexOf 2 (some .int) (d + 3) 0 [(0, vR (91, 0, 0)), (1, vI v)] [] Mz (fun r M' => Mz = M' ∧ (True) ∧ SP_S_indexOf_0 v Mz r) := by
  refine w_aload_n dS_indexOf_0 rfl 0 rfl ?_
  refine w_iload_n dS_indexOf_1 rfl 1 rfl ?_
  refine w_iconst (v := 0) dS_indexOf_2 (by decide) ?_
  refine w_callStr (k := 0) rfl (as := [vI v, vI 0]) (rest := []) (c_S_indexOf2_0 l G cy ad d v 0 Mz) kV_S_indexOf2 (by decide +kernel) rfl (Nat.le_of_ble_eq_true rfl) m_744 rfl rfl (by decide) (Nat.le_of_ble_eq_true rfl) dS_indexOf_3 (fun r1_ M2_ q3_ => ?_)
  obtain ⟨rfl, h4_, hs5_⟩ := q3_
  exact w_iret rfl dS_indexOf_6 ⟨rfl, trivial, ⟨r1_, hs5_, rfl⟩⟩
def SP_S_coder_1 (Mz : mM) (r_ : Int32) : Prop := r_ = 0
set_option maxHeartbeats 4000000 in
set_option maxRecDepth 100000 in
theorem c_S_coder_1 {cls : List rf} (l : Launch) (G : va_G) (cy : Nat → ClassId) (ad : rf → Nat) (d : Nat) (Mz : mM) : WP cls l G cy ad yS_coder cS_coder 1 (some .byte) d 0 [(0, vR (91, 1, 0))] [] Mz (fun r M' => Mz = M' ∧ (r = 0) ∧ SP_S_coder_1 Mz r) := by
  refine w_getsC m_752 dS_coder_0 ?_
  refine w_if_eq (tgt := 13) dS_coder_3 (by decide) li_1 (fun h9 => (absurd h9 (by decide))) (fun h1_ => ?_)
  refine w_aload_n dS_coder_6 rfl 0 rfl ?_
  refine w_getSc (k := 1) rfl m_1871 dS_coder_7 ?_
  refine w_goto (tgt := 14) dS_coder_10 (by decide) ?_
  exact w_bret (ty := .byte) rfl dS_coder_14 rfl ⟨rfl, rfl, rfl⟩
def SP_S_isLatin1_1 (Mz : mM) (r_ : Int32) : Prop := r_ = 1
set_option maxHeartbeats 4000000 in
set_option maxRecDepth 100000 in
theorem c_S_isLatin1_1 {cls : List rf} (l : Launch) (G : va_G) (cy : Nat → ClassId) (ad : rf → Nat) (d : Nat) (Mz : mM) : WP cls l G cy ad yS_isLatin1 cS_isLatin1 1 (some .boolean) d 0 [(0, vR (91, 1, 0))] [] Mz (fun r M' => Mz = M' ∧ (r = 1) ∧ SP_S_isLatin1_1 Mz r) := by
  refine w_getsC m_752 dS_isLatin1_0 ?_
  refine w_if_eq (tgt := 17) dS_isLatin1_3 (by decide) li_1 (fun h9 => (absurd h9 (by decide))) (fun h1_ => ?_)
  refine w_aload_n dS_isLatin1_6 rfl 0 rfl ?_
  refine w_getSc (k := 1) rfl m_1871 dS_isLatin1_7 ?_
  refine w_if_ne (tgt := 17) dS_isLatin1_10 (by decide) li_0 (fun h9 => (absurd h9 (by decide))) (fun h2_ => ?_)
  refine w_iconst (v := 1) dS_isLatin1_13 (by decide) ?_
  refine w_goto (tgt := 18) dS_isLatin1_14 (by decide) ?_
  exact w_zret rfl dS_isLatin1_18 ⟨by decide, by decide⟩ ⟨rfl, rfl, rfl⟩
def SP_S_length_1 (Mz : mM) (r_ : Int32) : Prop := (SP_S_coder_1 Mz (0 : Int32)) ∧ r_ = 4
set_option maxHeartbeats 4000000 in
set_option maxRecDepth 100000 in
theorem c_S_length_1 {cls : List rf} (l : Launch) (G : va_G) (cy : Nat → ClassId) (ad : rf → Nat) (d : Nat) (Mz : mM) : WP cls l G cy ad yS_length cS_length 1 (some .int) (d + 1) 0 [(0, vR (91, 1, 0))] [] Mz (fun r M' => Mz = M' ∧ (r = 4) ∧ SP_S_length_1 Mz r) := by
  refine w_aload_n dS_length_0 rfl 0 rfl ?_
  refine w_getSv (k := 1) rfl m_1872 dS_length_1 ?_
  refine w_alenS (k := 1) (v := 4) rfl dS_length_4 rfl ?_
  refine w_aload_n dS_length_5 rfl 0 rfl ?_
  refine w_callStr (k := 1) rfl (as := []) (rest := [vI 4]) (c_S_coder_1 l G cy ad d Mz) kV_S_coder (by decide +kernel) rfl (Nat.le_of_ble_eq_true rfl) m_758 rfl rfl (by decide) (Nat.le_of_ble_eq_true rfl) dS_length_6 (fun r1_ M2_ q3_ => ?_)
  obtain ⟨rfl, h4_, hs5_⟩ := q3_
  subst h4_
  refine w_ishr dS_length_9 (fun z6_ h7_ => ?_)
  obtain rfl : z6_ = 4 := h7_.trans (by decide)
  exact w_iret rfl dS_length_10 ⟨rfl, rfl, ⟨hs5_, rfl⟩⟩
def SP_SL_charAt_1 (v : Int32) (Mz : mM) (r_ : Int32) : Prop := ∃ z1_j : Nat, ((z1_j : Int) = v.toInt) ∧ ∃ z1_ : Int32, (z1_ = ([108, 111, 121, 112] : List Int32).getD z1_j 0) ∧ ∃ z2_ : Int32, (z2_ = z1_ &&& (255 : Int32)) ∧ (0 ≤ z2_.toInt ∧ z2_.toInt < ((2 ^ 8 : Nat) : Int)) ∧ ∃ z5_ : Int32, (z5_ = (z2_.toUInt32 % 65536).toInt32) ∧ (narrow .char (.int z5_) = .int z5_) ∧ r_ = z5_
theorem lf_c_SL_charAt_1_0  (v : Int32) (hv : 0 ≤ v.toInt ∧ v.toInt < 4) : 0 ≤ v.toInt ∧ v.toInt < 4 := by have r_v := rngI v; omega
theorem lf_c_SL_charAt_1_1  (v : Int32) (hv : 0 ≤ v.toInt ∧ v.toInt < 4) : 0 ≤ v.toInt ∧ v.toInt < 4 := by have r_v := rngI v; omega
set_option maxHeartbeats 4000000 in
set_option maxRecDepth 100000 in
theorem c_SL_charAt_1 {cls : List rf} (l : Launch) (G : va_G) (cy : Nat → ClassId) (ad : rf → Nat) (d : Nat) (v : Int32) (Mz : mM) (hv : 0 ≤ v.toInt ∧ v.toInt < 4) : WP cls l G cy ad ySL_charAt cSL_charAt 2 (some .char) (d + 3) 0 [(0, vR (90, 11, 0)), (1, vI v)] [] Mz (fun r M' => Mz = M' ∧ (narrow .char (.int r) = .int r) ∧ SP_SL_charAt_1 v Mz r) := by
  refine w_iload_n dSL_charAt_0 rfl 1 rfl ?_
  refine w_aload_n dSL_charAt_1 rfl 0 rfl ?_
  refine w_alenS (k := 1) (v := 4) rfl dSL_charAt_2 rfl ?_
  refine w_checkIndex m_1607 (lf_c_SL_charAt_1_0 v hv) li_4 (Nat.le_of_ble_eq_true rfl) (by omega) dSL_charAt_3 ?_
  refine w_aload_n dSL_charAt_6 rfl 0 rfl ?_
  refine w_iload_n dSL_charAt_7 rfl 1 rfl ?_
  refine w_baldS (k := 1) rfl (rfl : v.toInt = v.toInt) (lf_c_SL_charAt_1_1 v hv) dSL_charAt_8 (fun z1_j z1_k z1_ z1_h => ?_)
  refine w_sipush (v := 255) dSL_charAt_9 (by decide) ?_
  refine w_iand dSL_charAt_12 (fun z2_ h4_ => ?_)
  have h3_ : 0 ≤ z2_.toInt ∧ z2_.toInt < ((2 ^ 8 : Nat) : Int) := by rw [h4_]; exact andI _ 8 (by decide) (by decide)
  refine w_i2c dSL_charAt_13 (fun z5_ h6_ => ?_)
  have h7_ : narrow .char (.int z5_) = .int z5_ := by rw [h6_]; exact nar_c _
  exact w_bret (ty := .char) rfl dSL_charAt_14 h7_ ⟨rfl, h7_, ⟨z1_j, z1_k, z1_, z1_h, z2_, h4_, h3_, z5_, h6_, h7_, rfl⟩⟩
def SP_S_charAt_1 (v : Int32) (Mz : mM) (r_ : Int32) : Prop := (SP_S_isLatin1_1 Mz (1 : Int32)) ∧ ∃ r7_ : Int32, (SP_SL_charAt_1 v Mz r7_) ∧ (narrow .char (.int r7_) = .int r7_) ∧ r_ = r7_
set_option maxHeartbeats 4000000 in
set_option maxRecDepth 100000 in
theorem c_S_charAt_1 {cls : List rf} (l : Launch) (G : va_G) (cy : Nat → ClassId) (ad : rf → Nat) (d : Nat) (v : Int32) (Mz : mM) (hv : 0 ≤ v.toInt ∧ v.toInt < 4) : WP cls l G cy ad yS_charAt cS_charAt 2 (some .char) (d + 4) 0 [(0, vR (91, 1, 0)), (1, vI v)] [] Mz (fun r M' => Mz = M' ∧ (narrow .char (.int r) = .int r) ∧ SP_S_charAt_1 v Mz r) := by
  refine w_aload_n dS_charAt_0 rfl 0 rfl ?_
  refine w_callStr (k := 1) rfl (as := []) (rest := []) (c_S_isLatin1_1 l G cy ad (d + 3) Mz) kV_S_isLatin1 (by decide +kernel) rfl (Nat.le_of_ble_eq_true rfl) m_748 rfl rfl (by decide) (Nat.le_of_ble_eq_true rfl) dS_charAt_1 (fun r1_ M2_ q3_ => ?_)
  obtain ⟨rfl, h4_, hs5_⟩ := q3_
  subst h4_
  refine w_if_eq (tgt := 16) dS_charAt_4 (by decide) li_1 (fun h9 => (absurd h9 (by decide))) (fun h6_ => ?_)
  refine w_aload_n dS_charAt_7 rfl 0 rfl ?_
  refine w_getSv (k := 1) rfl m_1872 dS_charAt_8 ?_
  refine w_iload_n dS_charAt_11 rfl 1 rfl ?_
  refine w_callS (as := [vR (90, 11, 0), vI v]) (rest := []) (c_SL_charAt_1 l G cy ad d v Mz hv) kS_SL_charAt (by decide +kernel) (Nat.le_of_ble_eq_true rfl) m_1604 rfl rfl (by decide) (Nat.le_of_ble_eq_true rfl) dS_charAt_12 (fun r7_ M8_ q9_ => ?_)
  obtain ⟨rfl, h10_, hs11_⟩ := q9_
  exact w_bret (ty := .char) rfl dS_charAt_15 h10_ ⟨rfl, h10_, ⟨hs5_, r7_, hs11_, h10_, rfl⟩⟩
def ST_SL_indexOfChar_1_7 (t : Int32) (z1_ : Int32) (v5_7 : Int32) (v5_7y : Int32) : Prop := (0 ≤ v5_7.toInt) ∧ (v5_7.toInt < t.toInt) ∧ ∃ z5_j : Nat, ((z5_j : Int) = v5_7.toInt) ∧ ∃ z5_ : Int32, (z5_ = ([108, 111, 121, 112] : List Int32).getD z5_j 0) ∧ (¬ z5_.toInt = z1_.toInt) ∧ ∃ z7_ : Int32, (z7_.toInt = v5_7.toInt + 1) ∧ v5_7y = z7_
def SP_SL_indexOfChar_1 (v : Int32) (u : Int32) (t : Int32) (Mz : mM) (r_ : Int32) : Prop := ∃ z1_ : Int32, (z1_ = v.toInt8.toInt32) ∧ ∃ v5_7 : Int32, (0 ≤ v5_7.toInt) ∧ (RCH (fun x_ y_ => ST_SL_indexOfChar_1_7 t z1_ x_ y_) u v5_7) ∧ (((t.toInt ≤ v5_7.toInt) ∧ r_ = (-1)) ∨ ((v5_7.toInt < t.toInt) ∧ ∃ z5_j : Nat, ((z5_j : Int) = v5_7.toInt) ∧ ∃ z5_ : Int32, (z5_ = ([108, 111, 121, 112] : List Int32).getD z5_j 0) ∧ (z5_.toInt = z1_.toInt) ∧ r_ = v5_7))
theorem lf_c_SL_indexOfChar_1_0  (t : Int32) (v5_7 : Int32) (ht : t.toInt ≤ 4) (hv0_7 : 0 ≤ v5_7.toInt) (h4_ : v5_7.toInt < t.toInt) : 0 ≤ v5_7.toInt ∧ v5_7.toInt < 4 := by have r_t := rngI t; have r_v5_7 := rngI v5_7; omega
theorem lf_c_SL_indexOfChar_1_1  (t : Int32) (v5_7 : Int32) (ht : t.toInt ≤ 4) (hv0_7 : 0 ≤ v5_7.toInt) (h4_ : v5_7.toInt < t.toInt) : -2147483648 ≤ v5_7.toInt + 1 ∧ v5_7.toInt + 1 < 2147483648 := by have r_t := rngI t; have r_v5_7 := rngI v5_7; omega
theorem lf_c_SL_indexOfChar_1_2  (t : Int32) (v5_7 : Int32) (z7_ : Int32) (ht : t.toInt ≤ 4) (hv0_7 : 0 ≤ v5_7.toInt) (h4_ : v5_7.toInt < t.toInt) (h8_ : z7_.toInt = v5_7.toInt + 1) : 0 ≤ z7_.toInt := by have r_t := rngI t; have r_v5_7 := rngI v5_7; have r_z7_ := rngI z7_; omega
theorem lf_c_SL_indexOfChar_1_3  (t : Int32) (v5_7 : Int32) (z7_ : Int32) (ht : t.toInt ≤ 4) (hv0_7 : 0 ≤ v5_7.toInt) (h4_ : v5_7.toInt < t.toInt) (h8_ : z7_.toInt = v5_7.toInt + 1) : (t.toInt - z7_.toInt).toNat < (t.toInt - v5_7.toInt).toNat := by have r_t := rngI t; have r_v5_7 := rngI v5_7; have r_z7_ := rngI z7_; omega
set_option maxHeartbeats 4000000 in
set_option maxRecDepth 100000 in
theorem c_SL_indexOfChar_1 {cls : List rf} (l : Launch) (G : va_G) (cy : Nat → ClassId) (ad : rf → Nat) (d : Nat) (v : Int32) (u : Int32) (t : Int32) (Mz : mM) (hu : 0 ≤ u.toInt) (ht : t.toInt ≤ 4) : WP cls l G cy ad ySL_indexOfChar cSL_indexOfChar 6 (some .int) d 0 [(0, vR (90, 11, 0)), (1, vI v), (2, vI u), (3, vI t)] [] Mz (fun r M' => Mz = M' ∧ (True) ∧ SP_SL_indexOfChar_1 v u t Mz r) := by
  refine w_iload_n dSL_indexOfChar_0 rfl 1 rfl ?_
  refine w_i2b dSL_indexOfChar_1 (fun z1_ h2_ => ?_)
  refine w_istore (ls' := [(4, vI z1_), (0, vR (90, 11, 0)), (1, vI v), (2, vI u), (3, vI t)]) dSL_indexOfChar_2 (by decide) rfl ?_
  refine w_iload_n dSL_indexOfChar_4 rfl 3 rfl ?_
  refine w_istore (ls' := [(5, vI u), (4, vI z1_), (0, vR (90, 11, 0)), (1, vI v), (2, vI u), (3, vI t)]) dSL_indexOfChar_5 (by decide) rfl ?_
  have lp3_ : ∀ (nn_7 : Nat) (v5_7 : Int32) (hv0_7 : 0 ≤ v5_7.toInt) (hL_7 : RCH (fun x_ y_ => ST_SL_indexOfChar_1_7 t z1_ x_ y_) u v5_7), (t.toInt - v5_7.toInt).toNat < nn_7 → WP cls l G cy ad ySL_indexOfChar cSL_indexOfChar 6 (some .int) d 7 [(5, vI v5_7), (4, vI z1_), (0, vR (90, 11, 0)), (1, vI v), (2, vI u), (3, vI t)] [] Mz (fun r M' => Mz = M' ∧ (True) ∧ SP_SL_indexOfChar_1 v u t Mz r) := by
    intro nn_7
    induction nn_7 with
    | zero => intro v5_7 hv0_7 hL_7 hm_7; exact absurd hm_7 (Nat.not_lt_zero _)
    | succ nn_7 ih_7 =>
      intro v5_7 hv0_7 hL_7 hm_7
      refine w_iload dSL_indexOfChar_7 0 rfl ?_
      refine w_iload_n dSL_indexOfChar_9 rfl 5 rfl ?_
      refine w_icmp_ge (tgt := 31) dSL_indexOfChar_10 (by decide) (rfl : v5_7.toInt = v5_7.toInt) (rfl : t.toInt = t.toInt) (fun h4_ => ?_) (fun h4_ => ?_)
      · refine w_iconst (v := (-1)) dSL_indexOfChar_31 (by decide) ?_
        exact w_iret rfl dSL_indexOfChar_32 ⟨rfl, trivial, ⟨z1_, h2_, v5_7, hv0_7, hL_7, (Or.inl ⟨h4_, rfl⟩)⟩⟩
      · refine w_aload_n dSL_indexOfChar_13 rfl 2 rfl ?_
        refine w_iload dSL_indexOfChar_14 0 rfl ?_
        refine w_baldS (k := 1) rfl (rfl : v5_7.toInt = v5_7.toInt) (lf_c_SL_indexOfChar_1_0 t v5_7 ht hv0_7 h4_) dSL_indexOfChar_16 (fun z5_j z5_k z5_ z5_h => ?_)
        refine w_iload dSL_indexOfChar_17 1 rfl ?_
        refine w_icmp_ne (tgt := 25) dSL_indexOfChar_19 (by decide) (rfl : z5_.toInt = z5_.toInt) (rfl : z1_.toInt = z1_.toInt) (fun h6_ => ?_) (fun h6_ => ?_)
        · refine w_iincB (j := 0) (f := fun z7_ => [(5, vI z7_), (4, vI z1_), (0, vR (90, 11, 0)), (1, vI v), (2, vI u), (3, vI t)]) dSL_indexOfChar_25 rfl (by decide) (fun _ => rfl) (rfl : v5_7.toInt = v5_7.toInt) li_1 (lf_c_SL_indexOfChar_1_1 t v5_7 ht hv0_7 h4_) (fun z7_ h8_ => ?_)
          refine w_goto (tgt := 7) dSL_indexOfChar_28 (by decide) ?_
          refine w_loc (ls' := [(5, vI z7_), (4, vI z1_), (0, vR (90, 11, 0)), (1, vI v), (2, vI u), (3, vI t)]) [0, 1, 2, 3, 4, 5] rfl ?_
          exact ih_7 z7_ (lf_c_SL_indexOfChar_1_2 t v5_7 z7_ ht hv0_7 h4_ h8_) (RCH.tail hL_7 ⟨hv0_7, h4_, z5_j, z5_k, z5_, z5_h, h6_, z7_, h8_, rfl⟩) (Nat.lt_of_lt_of_le (lf_c_SL_indexOfChar_1_3 t v5_7 z7_ ht hv0_7 h4_ h8_) (Nat.le_of_lt_succ hm_7))
        · refine w_iload dSL_indexOfChar_22 0 rfl ?_
          exact w_iret rfl dSL_indexOfChar_24 ⟨rfl, trivial, ⟨z1_, h2_, v5_7, hv0_7, hL_7, (Or.inr ⟨h4_, z5_j, z5_k, z5_, z5_h, h6_, rfl⟩)⟩⟩
  exact lp3_ _ u hu RCH.refl (Nat.lt_succ_self _)
def SP_SL_indexOf_1 (v : Int32) (u : Int32) (t : Int32) (Mz : mM) (r_ : Int32) : Prop := ∃ r1_ : Int32, (SP_SL_canEncode_0 v Mz r1_) ∧ ((0 ≤ r1_.toInt ∧ r1_.toInt ≤ 1)) ∧ (((¬ r1_.toInt = 0) ∧ ∃ z7_ : Int32, ((z7_.toInt = u.toInt ∧ 0 ≤ u.toInt) ∨ (z7_.toInt = 0 ∧ u.toInt ≤ 0)) ∧ ∃ z9_ : Int32, ((z9_.toInt = t.toInt ∧ t.toInt ≤ 4) ∨ (z9_.toInt = 4 ∧ 4 ≤ t.toInt)) ∧ (((z7_.toInt < z9_.toInt) ∧ ∃ r12_ : Int32, (SP_SL_indexOfChar_1 v z7_ z9_ Mz r12_) ∧ r_ = r12_) ∨ ((z9_.toInt ≤ z7_.toInt) ∧ r_ = (-1)))) ∨ ((r1_.toInt = 0) ∧ r_ = (-1)))
theorem lf_c_SL_indexOf_1_0  (u : Int32) (t : Int32) (z7_ : Int32) (z9_ : Int32) (h8_ : (z7_.toInt = u.toInt ∧ 0 ≤ u.toInt) ∨ (z7_.toInt = 0 ∧ u.toInt ≤ 0)) (h10_ : (z9_.toInt = t.toInt ∧ t.toInt ≤ 4) ∨ (z9_.toInt = 4 ∧ 4 ≤ t.toInt)) (h11_ : z7_.toInt < z9_.toInt) : 0 ≤ z7_.toInt := by have r_u := rngI u; have r_t := rngI t; have r_z7_ := rngI z7_; have r_z9_ := rngI z9_; omega
theorem lf_c_SL_indexOf_1_1  (u : Int32) (t : Int32) (z7_ : Int32) (z9_ : Int32) (h8_ : (z7_.toInt = u.toInt ∧ 0 ≤ u.toInt) ∨ (z7_.toInt = 0 ∧ u.toInt ≤ 0)) (h10_ : (z9_.toInt = t.toInt ∧ t.toInt ≤ 4) ∨ (z9_.toInt = 4 ∧ 4 ≤ t.toInt)) (h11_ : z7_.toInt < z9_.toInt) : z9_.toInt ≤ 4 := by have r_u := rngI u; have r_t := rngI t; have r_z7_ := rngI z7_; have r_z9_ := rngI z9_; omega
set_option maxHeartbeats 4000000 in
set_option maxRecDepth 100000 in
theorem c_SL_indexOf_1 {cls : List rf} (l : Launch) (G : va_G) (cy : Nat → ClassId) (ad : rf → Nat) (d : Nat) (v : Int32) (u : Int32) (t : Int32) (Mz : mM) : WP cls l G cy ad ySL_indexOf cSL_indexOf 4 (some .int) (d + 1) 0 [(0, vR (90, 11, 0)), (1, vI v), (2, vI u), (3, vI t)] [] Mz (fun r M' => Mz = M' ∧ (True) ∧ SP_SL_indexOf_1 v u t Mz r) := by
  refine w_iload_n dSL_indexOf_0 rfl 1 rfl ?_
  refine w_callS (as := [vI v]) (rest := []) (c_SL_canEncode_0 l G cy ad d v Mz) kS_SL_canEncode (by decide +kernel) (Nat.le_of_ble_eq_true rfl) m_765 rfl rfl (by decide) (Nat.le_of_ble_eq_true rfl) dSL_indexOf_1 (fun r1_ M2_ q3_ => ?_)
  obtain ⟨rfl, h4_, hs5_⟩ := q3_
  refine w_if_ne (tgt := 9) dSL_indexOf_4 (by decide) (rfl : r1_.toInt = r1_.toInt) (fun h6_ => ?_) (fun h6_ => ?_)
  · refine w_iload_n dSL_indexOf_9 rfl 2 rfl ?_
    refine w_iconst (v := 0) dSL_indexOf_10 (by decide) ?_
    refine w_max m_768 m_206 m_86 m_207 (rfl : u.toInt = u.toInt) li_0 (Nat.le_of_ble_eq_true rfl) (by omega) dSL_indexOf_11 (fun z7_ h8_ => ?_)
    refine w_istore_n (ls' := [(2, vI z7_), (0, vR (90, 11, 0)), (1, vI v), (3, vI t)]) dSL_indexOf_14 rfl (by decide) rfl ?_
    refine w_iload_n dSL_indexOf_15 rfl 3 rfl ?_
    refine w_aload_n dSL_indexOf_16 rfl 1 rfl ?_
    refine w_alenS (k := 1) (v := 4) rfl dSL_indexOf_17 rfl ?_
    refine w_min m_769 m_770 m_86 m_771 (rfl : t.toInt = t.toInt) li_4 (Nat.le_of_ble_eq_true rfl) (by omega) dSL_indexOf_18 (fun z9_ h10_ => ?_)
    refine w_istore_n (ls' := [(3, vI z9_), (2, vI z7_), (0, vR (90, 11, 0)), (1, vI v)]) dSL_indexOf_21 rfl (by decide) rfl ?_
    refine w_iload_n dSL_indexOf_22 rfl 1 rfl ?_
    refine w_iload_n dSL_indexOf_23 rfl 0 rfl ?_
    refine w_icmp_lt (tgt := 29) dSL_indexOf_24 (by decide) (rfl : z7_.toInt = z7_.toInt) (rfl : z9_.toInt = z9_.toInt) (fun h11_ => ?_) (fun h11_ => ?_)
    · refine w_aload_n dSL_indexOf_29 rfl 2 rfl ?_
      refine w_iload_n dSL_indexOf_30 rfl 3 rfl ?_
      refine w_iload_n dSL_indexOf_31 rfl 1 rfl ?_
      refine w_iload_n dSL_indexOf_32 rfl 0 rfl ?_
      refine w_callS (as := [vR (90, 11, 0), vI v, vI z7_, vI z9_]) (rest := []) (c_SL_indexOfChar_1 l G cy ad d v z7_ z9_ Mz (lf_c_SL_indexOf_1_0 u t z7_ z9_ h8_ h10_ h11_) (lf_c_SL_indexOf_1_1 u t z7_ z9_ h8_ h10_ h11_)) kS_SL_indexOfChar (by decide +kernel) (Nat.le_of_ble_eq_true rfl) m_772 rfl rfl (by decide) (Nat.le_of_ble_eq_true rfl) dSL_indexOf_33 (fun r12_ M13_ q14_ => ?_)
      obtain ⟨rfl, h15_, hs16_⟩ := q14_
      exact w_iret rfl dSL_indexOf_36 ⟨rfl, trivial, ⟨r1_, hs5_, h4_, (Or.inl ⟨h6_, z7_, h8_, z9_, h10_, (Or.inl ⟨h11_, r12_, hs16_, rfl⟩)⟩)⟩⟩
    · refine w_iconst (v := (-1)) dSL_indexOf_27 (by decide) ?_
      exact w_iret rfl dSL_indexOf_28 ⟨rfl, trivial, ⟨r1_, hs5_, h4_, (Or.inl ⟨h6_, z7_, h8_, z9_, h10_, (Or.inr ⟨h11_, rfl⟩)⟩)⟩⟩
  · refine w_iconst (v := (-1)) dSL_indexOf_7 (by decide) ?_
    exact w_iret rfl dSL_indexOf_8 ⟨rfl, trivial, ⟨r1_, hs5_, h4_, (Or.inr ⟨h6_, rfl⟩)⟩⟩
def SP_S_indexOf2_1 (v : Int32) (u : Int32) (Mz : mM) (r_ : Int32) : Prop := (SP_S_isLatin1_1 Mz (1 : Int32)) ∧ (SP_S_length_1 Mz (4 : Int32)) ∧ ∃ r12_ : Int32, (SP_SL_indexOf_1 v u 4 Mz r12_) ∧ r_ = r12_
set_option maxHeartbeats 4000000 in
set_option maxRecDepth 100000 in
theorem c_S_indexOf2_1 {cls : List rf} (l : Launch) (G : va_G) (cy : Nat → ClassId) (ad : rf → Nat) (d : Nat) (v : Int32) (u : Int32) (Mz : mM) : WP cls l G cy ad yS_indexOf2 cS_indexOf2 3 (some .int) (d + 2) 0 [(0, vR (91, 1, 0)), (1, vI v), (2, vI u)] [] Mz (fun r M' => Mz = M' ∧ (True) ∧ SP_S_indexOf2_1 v u Mz r) := by
  refine w_aload_n dS_indexOf2_0 rfl 0 rfl ?_
  refine w_callStr (k := 1) rfl (as := []) (rest := []) (c_S_isLatin1_1 l G cy ad (d + 1) Mz) kV_S_isLatin1 (by decide +kernel) rfl (Nat.le_of_ble_eq_true rfl) m_748 rfl rfl (by decide) (Nat.le_of_ble_eq_true rfl) dS_indexOf2_1 (fun r1_ M2_ q3_ => ?_)
  obtain ⟨rfl, h4_, hs5_⟩ := q3_
  subst h4_
  refine w_if_eq (tgt := 23) dS_indexOf2_4 (by decide) li_1 (fun h9 => (absurd h9 (by decide))) (fun h6_ => ?_)
  refine w_aload_n dS_indexOf2_7 rfl 0 rfl ?_
  refine w_getSv (k := 1) rfl m_1872 dS_indexOf2_8 ?_
  refine w_iload_n dS_indexOf2_11 rfl 1 rfl ?_
  refine w_iload_n dS_indexOf2_12 rfl 2 rfl ?_
  refine w_aload_n dS_indexOf2_13 rfl 0 rfl ?_
  refine w_callStr (k := 1) rfl (as := []) (rest := [vI u, vI v, vR (90, 11, 0)]) (c_S_length_1 l G cy ad d Mz) kV_S_length (by decide +kernel) rfl (Nat.le_of_ble_eq_true rfl) m_754 rfl rfl (by decide) (Nat.le_of_ble_eq_true rfl) dS_indexOf2_14 (fun r7_ M8_ q9_ => ?_)
  obtain ⟨rfl, h10_, hs11_⟩ := q9_
  subst h10_
  refine w_callS (as := [vR (90, 11, 0), vI v, vI u, vI 4]) (rest := []) (c_SL_indexOf_1 l G cy ad d v u 4 Mz) kS_SL_indexOf (by decide +kernel) (Nat.le_of_ble_eq_true rfl) m_762 rfl rfl (by decide) (Nat.le_of_ble_eq_true rfl) dS_indexOf2_17 (fun r12_ M13_ q14_ => ?_)
  obtain ⟨rfl, h15_, hs16_⟩ := q14_
  refine w_goto (tgt := 36) dS_indexOf2_20 (by decide) ?_
  exact w_iret rfl dS_indexOf2_36 ⟨rfl, trivial, ⟨hs5_, hs11_, r12_, hs16_, rfl⟩⟩
def SP_S_indexOf_1 (v : Int32) (Mz : mM) (r_ : Int32) : Prop := ∃ r1_ : Int32, (SP_S_indexOf2_1 v 0 Mz r1_) ∧ r_ = r1_
set_option maxHeartbeats 4000000 in
set_option maxRecDepth 100000 in
theorem c_S_indexOf_1 {cls : List rf} (l : Launch) (G : va_G) (cy : Nat → ClassId) (ad : rf → Nat) (d : Nat) (v : Int32) (Mz : mM) : WP cls l G cy ad yS_indexOf cS_indexOf 2 (some .int) (d + 3) 0 [(0, vR (91, 1, 0)), (1, vI v)] [] Mz (fun r M' => Mz = M' ∧ (True) ∧ SP_S_indexOf_1 v Mz r) := by
  refine w_aload_n dS_indexOf_0 rfl 0 rfl ?_
  refine w_iload_n dS_indexOf_1 rfl 1 rfl ?_
  refine w_iconst (v := 0) dS_indexOf_2 (by decide) ?_
  refine w_callStr (k := 1) rfl (as := [vI v, vI 0]) (rest := []) (c_S_indexOf2_1 l G cy ad d v 0 Mz) kV_S_indexOf2 (by decide +kernel) rfl (Nat.le_of_ble_eq_true rfl) m_744 rfl rfl (by decide) (Nat.le_of_ble_eq_true rfl) dS_indexOf_3 (fun r1_ M2_ q3_ => ?_)
  obtain ⟨rfl, h4_, hs5_⟩ := q3_
  exact w_iret rfl dS_indexOf_6 ⟨rfl, trivial, ⟨r1_, hs5_, rfl⟩⟩
def SP_S_coder_2 (Mz : mM) (r_ : Int32) : Prop := r_ = 0
set_option maxHeartbeats 4000000 in
set_option maxRecDepth 100000 in
theorem c_S_coder_2 {cls : List rf} (l : Launch) (G : va_G) (cy : Nat → ClassId) (ad : rf → Nat) (d : Nat) (Mz : mM) : WP cls l G cy ad yS_coder cS_coder 1 (some .byte) d 0 [(0, vR (91, 2, 0))] [] Mz (fun r M' => Mz = M' ∧ (r = 0) ∧ SP_S_coder_2 Mz r) := by
  refine w_getsC m_752 dS_coder_0 ?_
  refine w_if_eq (tgt := 13) dS_coder_3 (by decide) li_1 (fun h9 => (absurd h9 (by decide))) (fun h1_ => ?_)
  refine w_aload_n dS_coder_6 rfl 0 rfl ?_
  refine w_getSc (k := 2) rfl m_1871 dS_coder_7 ?_
  refine w_goto (tgt := 14) dS_coder_10 (by decide) ?_
  exact w_bret (ty := .byte) rfl dS_coder_14 rfl ⟨rfl, rfl, rfl⟩
def SP_S_isLatin1_2 (Mz : mM) (r_ : Int32) : Prop := r_ = 1
set_option maxHeartbeats 4000000 in
set_option maxRecDepth 100000 in
theorem c_S_isLatin1_2 {cls : List rf} (l : Launch) (G : va_G) (cy : Nat → ClassId) (ad : rf → Nat) (d : Nat) (Mz : mM) : WP cls l G cy ad yS_isLatin1 cS_isLatin1 1 (some .boolean) d 0 [(0, vR (91, 2, 0))] [] Mz (fun r M' => Mz = M' ∧ (r = 1) ∧ SP_S_isLatin1_2 Mz r) := by
  refine w_getsC m_752 dS_isLatin1_0 ?_
  refine w_if_eq (tgt := 17) dS_isLatin1_3 (by decide) li_1 (fun h9 => (absurd h9 (by decide))) (fun h1_ => ?_)
  refine w_aload_n dS_isLatin1_6 rfl 0 rfl ?_
  refine w_getSc (k := 2) rfl m_1871 dS_isLatin1_7 ?_
  refine w_if_ne (tgt := 17) dS_isLatin1_10 (by decide) li_0 (fun h9 => (absurd h9 (by decide))) (fun h2_ => ?_)
  refine w_iconst (v := 1) dS_isLatin1_13 (by decide) ?_
  refine w_goto (tgt := 18) dS_isLatin1_14 (by decide) ?_
  exact w_zret rfl dS_isLatin1_18 ⟨by decide, by decide⟩ ⟨rfl, rfl, rfl⟩
def SP_S_length_2 (Mz : mM) (r_ : Int32) : Prop := (SP_S_coder_2 Mz (0 : Int32)) ∧ r_ = 3
set_option maxHeartbeats 4000000 in
set_option maxRecDepth 100000 in
theorem c_S_length_2 {cls : List rf} (l : Launch) (G : va_G) (cy : Nat → ClassId) (ad : rf → Nat) (d : Nat) (Mz : mM) : WP cls l G cy ad yS_length cS_length 1 (some .int) (d + 1) 0 [(0, vR (91, 2, 0))] [] Mz (fun r M' => Mz = M' ∧ (r = 3) ∧ SP_S_length_2 Mz r) := by
  refine w_aload_n dS_length_0 rfl 0 rfl ?_
  refine w_getSv (k := 2) rfl m_1872 dS_length_1 ?_
  refine w_alenS (k := 2) (v := 3) rfl dS_length_4 rfl ?_
  refine w_aload_n dS_length_5 rfl 0 rfl ?_
  refine w_callStr (k := 2) rfl (as := []) (rest := [vI 3]) (c_S_coder_2 l G cy ad d Mz) kV_S_coder (by decide +kernel) rfl (Nat.le_of_ble_eq_true rfl) m_758 rfl rfl (by decide) (Nat.le_of_ble_eq_true rfl) dS_length_6 (fun r1_ M2_ q3_ => ?_)
  obtain ⟨rfl, h4_, hs5_⟩ := q3_
  subst h4_
  refine w_ishr dS_length_9 (fun z6_ h7_ => ?_)
  obtain rfl : z6_ = 3 := h7_.trans (by decide)
  exact w_iret rfl dS_length_10 ⟨rfl, rfl, ⟨hs5_, rfl⟩⟩
def SP_SL_charAt_2 (v : Int32) (Mz : mM) (r_ : Int32) : Prop := ∃ z1_j : Nat, ((z1_j : Int) = v.toInt) ∧ ∃ z1_ : Int32, (z1_ = ([115, 110, 116] : List Int32).getD z1_j 0) ∧ ∃ z2_ : Int32, (z2_ = z1_ &&& (255 : Int32)) ∧ (0 ≤ z2_.toInt ∧ z2_.toInt < ((2 ^ 8 : Nat) : Int)) ∧ ∃ z5_ : Int32, (z5_ = (z2_.toUInt32 % 65536).toInt32) ∧ (narrow .char (.int z5_) = .int z5_) ∧ r_ = z5_
theorem lf_c_SL_charAt_2_0  (v : Int32) (hv : 0 ≤ v.toInt ∧ v.toInt < 3) : 0 ≤ v.toInt ∧ v.toInt < 3 := by have r_v := rngI v; omega
theorem lf_c_SL_charAt_2_1  (v : Int32) (hv : 0 ≤ v.toInt ∧ v.toInt < 3) : 0 ≤ v.toInt ∧ v.toInt < 3 := by have r_v := rngI v; omega
set_option maxHeartbeats 4000000 in
set_option maxRecDepth 100000 in
theorem c_SL_charAt_2 {cls : List rf} (l : Launch) (G : va_G) (cy : Nat → ClassId) (ad : rf → Nat) (d : Nat) (v : Int32) (Mz : mM) (hv : 0 ≤ v.toInt ∧ v.toInt < 3) : WP cls l G cy ad ySL_charAt cSL_charAt 2 (some .char) (d + 3) 0 [(0, vR (90, 12, 0)), (1, vI v)] [] Mz (fun r M' => Mz = M' ∧ (narrow .char (.int r) = .int r) ∧ SP_SL_charAt_2 v Mz r) := by
  refine w_iload_n dSL_charAt_0 rfl 1 rfl ?_
  refine w_aload_n dSL_charAt_1 rfl 0 rfl ?_
  refine w_alenS (k := 2) (v := 3) rfl dSL_charAt_2 rfl ?_
  refine w_checkIndex m_1607 (lf_c_SL_charAt_2_0 v hv) li_3 (Nat.le_of_ble_eq_true rfl) (by omega) dSL_charAt_3 ?_
  refine w_aload_n dSL_charAt_6 rfl 0 rfl ?_
  refine w_iload_n dSL_charAt_7 rfl 1 rfl ?_
  refine w_baldS (k := 2) rfl (rfl : v.toInt = v.toInt) (lf_c_SL_charAt_2_1 v hv) dSL_charAt_8 (fun z1_j z1_k z1_ z1_h => ?_)
  refine w_sipush (v := 255) dSL_charAt_9 (by decide) ?_
  refine w_iand dSL_charAt_12 (fun z2_ h4_ => ?_)
  have h3_ : 0 ≤ z2_.toInt ∧ z2_.toInt < ((2 ^ 8 : Nat) : Int) := by rw [h4_]; exact andI _ 8 (by decide) (by decide)
  refine w_i2c dSL_charAt_13 (fun z5_ h6_ => ?_)
  have h7_ : narrow .char (.int z5_) = .int z5_ := by rw [h6_]; exact nar_c _
  exact w_bret (ty := .char) rfl dSL_charAt_14 h7_ ⟨rfl, h7_, ⟨z1_j, z1_k, z1_, z1_h, z2_, h4_, h3_, z5_, h6_, h7_, rfl⟩⟩
def SP_S_charAt_2 (v : Int32) (Mz : mM) (r_ : Int32) : Prop := (SP_S_isLatin1_2 Mz (1 : Int32)) ∧ ∃ r7_ : Int32, (SP_SL_charAt_2 v Mz r7_) ∧ (narrow .char (.int r7_) = .int r7_) ∧ r_ = r7_
set_option maxHeartbeats 4000000 in
set_option maxRecDepth 100000 in
theorem c_S_charAt_2 {cls : List rf} (l : Launch) (G : va_G) (cy : Nat → ClassId) (ad : rf → Nat) (d : Nat) (v : Int32) (Mz : mM) (hv : 0 ≤ v.toInt ∧ v.toInt < 3) : WP cls l G cy ad yS_charAt cS_charAt 2 (some .char) (d + 4) 0 [(0, vR (91, 2, 0)), (1, vI v)] [] Mz (fun r M' => Mz = M' ∧ (narrow .char (.int r) = .int r) ∧ SP_S_charAt_2 v Mz r) := by
  refine w_aload_n dS_charAt_0 rfl 0 rfl ?_
  refine w_callStr (k := 2) rfl (as := []) (rest := []) (c_S_isLatin1_2 l G cy ad (d + 3) Mz) kV_S_isLatin1 (by decide +kernel) rfl (Nat.le_of_ble_eq_true rfl) m_748 rfl rfl (by decide) (Nat.le_of_ble_eq_true rfl) dS_charAt_1 (fun r1_ M2_ q3_ => ?_)
  obtain ⟨rfl, h4_, hs5_⟩ := q3_
  subst h4_
  refine w_if_eq (tgt := 16) dS_charAt_4 (by decide) li_1 (fun h9 => (absurd h9 (by decide))) (fun h6_ => ?_)
  refine w_aload_n dS_charAt_7 rfl 0 rfl ?_
  refine w_getSv (k := 2) rfl m_1872 dS_charAt_8 ?_
  refine w_iload_n dS_charAt_11 rfl 1 rfl ?_
  refine w_callS (as := [vR (90, 12, 0), vI v]) (rest := []) (c_SL_charAt_2 l G cy ad d v Mz hv) kS_SL_charAt (by decide +kernel) (Nat.le_of_ble_eq_true rfl) m_1604 rfl rfl (by decide) (Nat.le_of_ble_eq_true rfl) dS_charAt_12 (fun r7_ M8_ q9_ => ?_)
  obtain ⟨rfl, h10_, hs11_⟩ := q9_
  exact w_bret (ty := .char) rfl dS_charAt_15 h10_ ⟨rfl, h10_, ⟨hs5_, r7_, hs11_, h10_, rfl⟩⟩
def ST_SL_indexOfChar_2_7 (t : Int32) (z1_ : Int32) (v5_7 : Int32) (v5_7y : Int32) : Prop := (0 ≤ v5_7.toInt) ∧ (v5_7.toInt < t.toInt) ∧ ∃ z5_j : Nat, ((z5_j : Int) = v5_7.toInt) ∧ ∃ z5_ : Int32, (z5_ = ([115, 110, 116] : List Int32).getD z5_j 0) ∧ (¬ z5_.toInt = z1_.toInt) ∧ ∃ z7_ : Int32, (z7_.toInt = v5_7.toInt + 1) ∧ v5_7y = z7_
def SP_SL_indexOfChar_2 (v : Int32) (u : Int32) (t : Int32) (Mz : mM) (r_ : Int32) : Prop := ∃ z1_ : Int32, (z1_ = v.toInt8.toInt32) ∧ ∃ v5_7 : Int32, (0 ≤ v5_7.toInt) ∧ (RCH (fun x_ y_ => ST_SL_indexOfChar_2_7 t z1_ x_ y_) u v5_7) ∧ (((t.toInt ≤ v5_7.toInt) ∧ r_ = (-1)) ∨ ((v5_7.toInt < t.toInt) ∧ ∃ z5_j : Nat, ((z5_j : Int) = v5_7.toInt) ∧ ∃ z5_ : Int32, (z5_ = ([115, 110, 116] : List Int32).getD z5_j 0) ∧ (z5_.toInt = z1_.toInt) ∧ r_ = v5_7))
theorem lf_c_SL_indexOfChar_2_0  (t : Int32) (v5_7 : Int32) (ht : t.toInt ≤ 3) (hv0_7 : 0 ≤ v5_7.toInt) (h4_ : v5_7.toInt < t.toInt) : 0 ≤ v5_7.toInt ∧ v5_7.toInt < 3 := by have r_t := rngI t; have r_v5_7 := rngI v5_7; omega
theorem lf_c_SL_indexOfChar_2_1  (t : Int32) (v5_7 : Int32) (ht : t.toInt ≤ 3) (hv0_7 : 0 ≤ v5_7.toInt) (h4_ : v5_7.toInt < t.toInt) : -2147483648 ≤ v5_7.toInt + 1 ∧ v5_7.toInt + 1 < 2147483648 := by have r_t := rngI t; have r_v5_7 := rngI v5_7; omega
theorem lf_c_SL_indexOfChar_2_2  (t : Int32) (v5_7 : Int32) (z7_ : Int32) (ht : t.toInt ≤ 3) (hv0_7 : 0 ≤ v5_7.toInt) (h4_ : v5_7.toInt < t.toInt) (h8_ : z7_.toInt = v5_7.toInt + 1) : 0 ≤ z7_.toInt := by have r_t := rngI t; have r_v5_7 := rngI v5_7; have r_z7_ := rngI z7_; omega
theorem lf_c_SL_indexOfChar_2_3  (t : Int32) (v5_7 : Int32) (z7_ : Int32) (ht : t.toInt ≤ 3) (hv0_7 : 0 ≤ v5_7.toInt) (h4_ : v5_7.toInt < t.toInt) (h8_ : z7_.toInt = v5_7.toInt + 1) : (t.toInt - z7_.toInt).toNat < (t.toInt - v5_7.toInt).toNat := by have r_t := rngI t; have r_v5_7 := rngI v5_7; have r_z7_ := rngI z7_; omega
set_option maxHeartbeats 4000000 in
set_option maxRecDepth 100000 in
theorem c_SL_indexOfChar_2 {cls : List rf} (l : Launch) (G : va_G) (cy : Nat → ClassId) (ad : rf → Nat) (d : Nat) (v : Int32) (u : Int32) (t : Int32) (Mz : mM) (hu : 0 ≤ u.toInt) (ht : t.toInt ≤ 3) : WP cls l G cy ad ySL_indexOfChar cSL_indexOfChar 6 (some .int) d 0 [(0, vR (90, 12, 0)), (1, vI v), (2, vI u), (3, vI t)] [] Mz (fun r M' => Mz = M' ∧ (True) ∧ SP_SL_indexOfChar_2 v u t Mz r) := by
  refine w_iload_n dSL_indexOfChar_0 rfl 1 rfl ?_
  refine w_i2b dSL_indexOfChar_1 (fun z1_ h2_ => ?_)
  refine w_istore (ls' := [(4, vI z1_), (0, vR (90, 12, 0)), (1, vI v), (2, vI u), (3, vI t)]) dSL_indexOfChar_2 (by decide) rfl ?_
  refine w_iload_n dSL_indexOfChar_4 rfl 3 rfl ?_
  refine w_istore (ls' := [(5, vI u), (4, vI z1_), (0, vR (90, 12, 0)), (1, vI v), (2, vI u), (3, vI t)]) dSL_indexOfChar_5 (by decide) rfl ?_
  have lp3_ : ∀ (nn_7 : Nat) (v5_7 : Int32) (hv0_7 : 0 ≤ v5_7.toInt) (hL_7 : RCH (fun x_ y_ => ST_SL_indexOfChar_2_7 t z1_ x_ y_) u v5_7), (t.toInt - v5_7.toInt).toNat < nn_7 → WP cls l G cy ad ySL_indexOfChar cSL_indexOfChar 6 (some .int) d 7 [(5, vI v5_7), (4, vI z1_), (0, vR (90, 12, 0)), (1, vI v), (2, vI u), (3, vI t)] [] Mz (fun r M' => Mz = M' ∧ (True) ∧ SP_SL_indexOfChar_2 v u t Mz r) := by
    intro nn_7
    induction nn_7 with
    | zero => intro v5_7 hv0_7 hL_7 hm_7; exact absurd hm_7 (Nat.not_lt_zero _)
    | succ nn_7 ih_7 =>
      intro v5_7 hv0_7 hL_7 hm_7
      refine w_iload dSL_indexOfChar_7 0 rfl ?_
      refine w_iload_n dSL_indexOfChar_9 rfl 5 rfl ?_
      refine w_icmp_ge (tgt := 31) dSL_indexOfChar_10 (by decide) (rfl : v5_7.toInt = v5_7.toInt) (rfl : t.toInt = t.toInt) (fun h4_ => ?_) (fun h4_ => ?_)
      · refine w_iconst (v := (-1)) dSL_indexOfChar_31 (by decide) ?_
        exact w_iret rfl dSL_indexOfChar_32 ⟨rfl, trivial, ⟨z1_, h2_, v5_7, hv0_7, hL_7, (Or.inl ⟨h4_, rfl⟩)⟩⟩
      · refine w_aload_n dSL_indexOfChar_13 rfl 2 rfl ?_
        refine w_iload dSL_indexOfChar_14 0 rfl ?_
        refine w_baldS (k := 2) rfl (rfl : v5_7.toInt = v5_7.toInt) (lf_c_SL_indexOfChar_2_0 t v5_7 ht hv0_7 h4_) dSL_indexOfChar_16 (fun z5_j z5_k z5_ z5_h => ?_)
        refine w_iload dSL_indexOfChar_17 1 rfl ?_
        refine w_icmp_ne (tgt := 25) dSL_indexOfChar_19 (by decide) (rfl : z5_.toInt = z5_.toInt) (rfl : z1_.toInt = z1_.toInt) (fun h6_ => ?_) (fun h6_ => ?_)
        · refine w_iincB (j := 0) (f := fun z7_ => [(5, vI z7_), (4, vI z1_), (0, vR (90, 12, 0)), (1, vI v), (2, vI u), (3, vI t)]) dSL_indexOfChar_25 rfl (by decide) (fun _ => rfl) (rfl : v5_7.toInt = v5_7.toInt) li_1 (lf_c_SL_indexOfChar_2_1 t v5_7 ht hv0_7 h4_) (fun z7_ h8_ => ?_)
          refine w_goto (tgt := 7) dSL_indexOfChar_28 (by decide) ?_
          refine w_loc (ls' := [(5, vI z7_), (4, vI z1_), (0, vR (90, 12, 0)), (1, vI v), (2, vI u), (3, vI t)]) [0, 1, 2, 3, 4, 5] rfl ?_
          exact ih_7 z7_ (lf_c_SL_indexOfChar_2_2 t v5_7 z7_ ht hv0_7 h4_ h8_) (RCH.tail hL_7 ⟨hv0_7, h4_, z5_j, z5_k, z5_, z5_h, h6_, z7_, h8_, rfl⟩) (Nat.lt_of_lt_of_le (lf_c_SL_indexOfChar_2_3 t v5_7 z7_ ht hv0_7 h4_ h8_) (Nat.le_of_lt_succ hm_7))
        · refine w_iload dSL_indexOfChar_22 0 rfl ?_
          exact w_iret rfl dSL_indexOfChar_24 ⟨rfl, trivial, ⟨z1_, h2_, v5_7, hv0_7, hL_7, (Or.inr ⟨h4_, z5_j, z5_k, z5_, z5_h, h6_, rfl⟩)⟩⟩
  exact lp3_ _ u hu RCH.refl (Nat.lt_succ_self _)
def SP_SL_indexOf_2 (v : Int32) (u : Int32) (t : Int32) (Mz : mM) (r_ : Int32) : Prop := ∃ r1_ : Int32, (SP_SL_canEncode_0 v Mz r1_) ∧ ((0 ≤ r1_.toInt ∧ r1_.toInt ≤ 1)) ∧ (((¬ r1_.toInt = 0) ∧ ∃ z7_ : Int32, ((z7_.toInt = u.toInt ∧ 0 ≤ u.toInt) ∨ (z7_.toInt = 0 ∧ u.toInt ≤ 0)) ∧ ∃ z9_ : Int32, ((z9_.toInt = t.toInt ∧ t.toInt ≤ 3) ∨ (z9_.toInt = 3 ∧ 3 ≤ t.toInt)) ∧ (((z7_.toInt < z9_.toInt) ∧ ∃ r12_ : Int32, (SP_SL_indexOfChar_2 v z7_ z9_ Mz r12_) ∧ r_ = r12_) ∨ ((z9_.toInt ≤ z7_.toInt) ∧ r_ = (-1)))) ∨ ((r1_.toInt = 0) ∧ r_ = (-1)))
theorem lf_c_SL_indexOf_2_0  (u : Int32) (t : Int32) (z7_ : Int32) (z9_ : Int32) (h8_ : (z7_.toInt = u.toInt ∧ 0 ≤ u.toInt) ∨ (z7_.toInt = 0 ∧ u.toInt ≤ 0)) (h10_ : (z9_.toInt = t.toInt ∧ t.toInt ≤ 3) ∨ (z9_.toInt = 3 ∧ 3 ≤ t.toInt)) (h11_ : z7_.toInt < z9_.toInt) : 0 ≤ z7_.toInt := by have r_u := rngI u; have r_t := rngI t; have r_z7_ := rngI z7_; have r_z9_ := rngI z9_; omega
theorem lf_c_SL_indexOf_2_1  (u : Int32) (t : Int32) (z7_ : Int32) (z9_ : Int32) (h8_ : (z7_.toInt = u.toInt ∧ 0 ≤ u.toInt) ∨ (z7_.toInt = 0 ∧ u.toInt ≤ 0)) (h10_ : (z9_.toInt = t.toInt ∧ t.toInt ≤ 3) ∨ (z9_.toInt = 3 ∧ 3 ≤ t.toInt)) (h11_ : z7_.toInt < z9_.toInt) : z9_.toInt ≤ 3 := by have r_u := rngI u; have r_t := rngI t; have r_z7_ := rngI z7_; have r_z9_ := rngI z9_; omega
set_option maxHeartbeats 4000000 in
set_option maxRecDepth 100000 in
theorem c_SL_indexOf_2 {cls : List rf} (l : Launch) (G : va_G) (cy : Nat → ClassId) (ad : rf → Nat) (d : Nat) (v : Int32) (u : Int32) (t : Int32) (Mz : mM) : WP cls l G cy ad ySL_indexOf cSL_indexOf 4 (some .int) (d + 1) 0 [(0, vR (90, 12, 0)), (1, vI v), (2, vI u), (3, vI t)] [] Mz (fun r M' => Mz = M' ∧ (True) ∧ SP_SL_indexOf_2 v u t Mz r) := by
  refine w_iload_n dSL_indexOf_0 rfl 1 rfl ?_
  refine w_callS (as := [vI v]) (rest := []) (c_SL_canEncode_0 l G cy ad d v Mz) kS_SL_canEncode (by decide +kernel) (Nat.le_of_ble_eq_true rfl) m_765 rfl rfl (by decide) (Nat.le_of_ble_eq_true rfl) dSL_indexOf_1 (fun r1_ M2_ q3_ => ?_)
  obtain ⟨rfl, h4_, hs5_⟩ := q3_
  refine w_if_ne (tgt := 9) dSL_indexOf_4 (by decide) (rfl : r1_.toInt = r1_.toInt) (fun h6_ => ?_) (fun h6_ => ?_)
  · refine w_iload_n dSL_indexOf_9 rfl 2 rfl ?_
    refine w_iconst (v := 0) dSL_indexOf_10 (by decide) ?_
    refine w_max m_768 m_206 m_86 m_207 (rfl : u.toInt = u.toInt) li_0 (Nat.le_of_ble_eq_true rfl) (by omega) dSL_indexOf_11 (fun z7_ h8_ => ?_)
    refine w_istore_n (ls' := [(2, vI z7_), (0, vR (90, 12, 0)), (1, vI v), (3, vI t)]) dSL_indexOf_14 rfl (by decide) rfl ?_
    refine w_iload_n dSL_indexOf_15 rfl 3 rfl ?_
    refine w_aload_n dSL_indexOf_16 rfl 1 rfl ?_
    refine w_alenS (k := 2) (v := 3) rfl dSL_indexOf_17 rfl ?_
    refine w_min m_769 m_770 m_86 m_771 (rfl : t.toInt = t.toInt) li_3 (Nat.le_of_ble_eq_true rfl) (by omega) dSL_indexOf_18 (fun z9_ h10_ => ?_)
    refine w_istore_n (ls' := [(3, vI z9_), (2, vI z7_), (0, vR (90, 12, 0)), (1, vI v)]) dSL_indexOf_21 rfl (by decide) rfl ?_
    refine w_iload_n dSL_indexOf_22 rfl 1 rfl ?_
    refine w_iload_n dSL_indexOf_23 rfl 0 rfl ?_
    refine w_icmp_lt (tgt := 29) dSL_indexOf_24 (by decide) (rfl : z7_.toInt = z7_.toInt) (rfl : z9_.toInt = z9_.toInt) (fun h11_ => ?_) (fun h11_ => ?_)
    · refine w_aload_n dSL_indexOf_29 rfl 2 rfl ?_
      refine w_iload_n dSL_indexOf_30 rfl 3 rfl ?_
      refine w_iload_n dSL_indexOf_31 rfl 1 rfl ?_
      refine w_iload_n dSL_indexOf_32 rfl 0 rfl ?_
      refine w_callS (as := [vR (90, 12, 0), vI v, vI z7_, vI z9_]) (rest := []) (c_SL_indexOfChar_2 l G cy ad d v z7_ z9_ Mz (lf_c_SL_indexOf_2_0 u t z7_ z9_ h8_ h10_ h11_) (lf_c_SL_indexOf_2_1 u t z7_ z9_ h8_ h10_ h11_)) kS_SL_indexOfChar (by decide +kernel) (Nat.le_of_ble_eq_true rfl) m_772 rfl rfl (by decide) (Nat.le_of_ble_eq_true rfl) dSL_indexOf_33 (fun r12_ M13_ q14_ => ?_)
      obtain ⟨rfl, h15_, hs16_⟩ := q14_
      exact w_iret rfl dSL_indexOf_36 ⟨rfl, trivial, ⟨r1_, hs5_, h4_, (Or.inl ⟨h6_, z7_, h8_, z9_, h10_, (Or.inl ⟨h11_, r12_, hs16_, rfl⟩)⟩)⟩⟩
    · refine w_iconst (v := (-1)) dSL_indexOf_27 (by decide) ?_
      exact w_iret rfl dSL_indexOf_28 ⟨rfl, trivial, ⟨r1_, hs5_, h4_, (Or.inl ⟨h6_, z7_, h8_, z9_, h10_, (Or.inr ⟨h11_, rfl⟩)⟩)⟩⟩
  · refine w_iconst (v := (-1)) dSL_indexOf_7 (by decide) ?_
    exact w_iret rfl dSL_indexOf_8 ⟨rfl, trivial, ⟨r1_, hs5_, h4_, (Or.inr ⟨h6_, rfl⟩)⟩⟩
def SP_S_indexOf2_2 (v : Int32) (u : Int32) (Mz : mM) (r_ : Int32) : Prop := (SP_S_isLatin1_2 Mz (1 : Int32)) ∧ (SP_S_length_2 Mz (3 : Int32)) ∧ ∃ r12_ : Int32, (SP_SL_indexOf_2 v u 3 Mz r12_) ∧ r_ = r12_
set_option maxHeartbeats 4000000 in
set_option maxRecDepth 100000 in
theorem c_S_indexOf2_2 {cls : List rf} (l : Launch) (G : va_G) (cy : Nat → ClassId) (ad : rf → Nat) (d : Nat) (v : Int32) (u : Int32) (Mz : mM) : WP cls l G cy ad yS_indexOf2 cS_indexOf2 3 (some .int) (d + 2) 0 [(0, vR (91, 2, 0)), (1, vI v), (2, vI u)] [] Mz (fun r M' => Mz = M' ∧ (True) ∧ SP_S_indexOf2_2 v u Mz r) := by
  refine w_aload_n dS_indexOf2_0 rfl 0 rfl ?_
  refine w_callStr (k := 2) rfl (as := []) (rest := []) (c_S_isLatin1_2 l G cy ad (d + 1) Mz) kV_S_isLatin1 (by decide +kernel) rfl (Nat.le_of_ble_eq_true rfl) m_748 rfl rfl (by decide) (Nat.le_of_ble_eq_true rfl) dS_indexOf2_1 (fun r1_ M2_ q3_ => ?_)
  obtain ⟨rfl, h4_, hs5_⟩ := q3_
  subst h4_
  refine w_if_eq (tgt := 23) dS_indexOf2_4 (by decide) li_1 (fun h9 => (absurd h9 (by decide))) (fun h6_ => ?_)
  refine w_aload_n dS_indexOf2_7 rfl 0 rfl ?_
  refine w_getSv (k := 2) rfl m_1872 dS_indexOf2_8 ?_
  refine w_iload_n dS_indexOf2_11 rfl 1 rfl ?_
  refine w_iload_n dS_indexOf2_12 rfl 2 rfl ?_
  refine w_aload_n dS_indexOf2_13 rfl 0 rfl ?_
  refine w_callStr (k := 2) rfl (as := []) (rest := [vI u, vI v, vR (90, 12, 0)]) (c_S_length_2 l G cy ad d Mz) kV_S_length (by decide +kernel) rfl (Nat.le_of_ble_eq_true rfl) m_754 rfl rfl (by decide) (Nat.le_of_ble_eq_true rfl) dS_indexOf2_14 (fun r7_ M8_ q9_ => ?_)
  obtain ⟨rfl, h10_, hs11_⟩ := q9_
  subst h10_
  refine w_callS (as := [vR (90, 12, 0), vI v, vI u, vI 3]) (rest := []) (c_SL_indexOf_2 l G cy ad d v u 3 Mz) kS_SL_indexOf (by decide +kernel) (Nat.le_of_ble_eq_true rfl) m_762 rfl rfl (by decide) (Nat.le_of_ble_eq_true rfl) dS_indexOf2_17 (fun r12_ M13_ q14_ => ?_)
  obtain ⟨rfl, h15_, hs16_⟩ := q14_
  refine w_goto (tgt := 36) dS_indexOf2_20 (by decide) ?_
  exact w_iret rfl dS_indexOf2_36 ⟨rfl, trivial, ⟨hs5_, hs11_, r12_, hs16_, rfl⟩⟩
def SP_S_indexOf_2 (v : Int32) (Mz : mM) (r_ : Int32) : Prop := ∃ r1_ : Int32, (SP_S_indexOf2_2 v 0 Mz r1_) ∧ r_ = r1_
set_option maxHeartbeats 4000000 in
set_option maxRecDepth 100000 in
theorem c_S_indexOf_2 {cls : List rf} (l : Launch) (G : va_G) (cy : Nat → ClassId) (ad : rf → Nat) (d : Nat) (v : Int32) (Mz : mM) : WP cls l G cy ad yS_indexOf cS_indexOf 2 (some .int) (d + 3) 0 [(0, vR (91, 2, 0)), (1, vI v)] [] Mz (fun r M' => Mz = M' ∧ (True) ∧ SP_S_indexOf_2 v Mz r) := by
  refine w_aload_n dS_indexOf_0 rfl 0 rfl ?_
  refine w_iload_n dS_indexOf_1 rfl 1 rfl ?_
  refine w_iconst (v := 0) dS_indexOf_2 (by decide) ?_
  refine w_callStr (k := 2) rfl (as := [vI v, vI 0]) (rest := []) (c_S_indexOf2_2 l G cy ad d v 0 Mz) kV_S_indexOf2 (by decide +kernel) rfl (Nat.le_of_ble_eq_true rfl) m_744 rfl rfl (by decide) (Nat.le_of_ble_eq_true rfl) dS_indexOf_3 (fun r1_ M2_ q3_ => ?_)
  obtain ⟨rfl, h4_, hs5_⟩ := q3_
  exact w_iret rfl dS_indexOf_6 ⟨rfl, trivial, ⟨r1_, hs5_, rfl⟩⟩
def SP_S_coder_3 (Mz : mM) (r_ : Int32) : Prop := r_ = 0
set_option maxHeartbeats 4000000 in
set_option maxRecDepth 100000 in
theorem c_S_coder_3 {cls : List rf} (l : Launch) (G : va_G) (cy : Nat → ClassId) (ad : rf → Nat) (d : Nat) (Mz : mM) : WP cls l G cy ad yS_coder cS_coder 1 (some .byte) d 0 [(0, vR (91, 3, 0))] [] Mz (fun r M' => Mz = M' ∧ (r = 0) ∧ SP_S_coder_3 Mz r) := by
  refine w_getsC m_752 dS_coder_0 ?_
  refine w_if_eq (tgt := 13) dS_coder_3 (by decide) li_1 (fun h9 => (absurd h9 (by decide))) (fun h1_ => ?_)
  refine w_aload_n dS_coder_6 rfl 0 rfl ?_
  refine w_getSc (k := 3) rfl m_1871 dS_coder_7 ?_
  refine w_goto (tgt := 14) dS_coder_10 (by decide) ?_
  exact w_bret (ty := .byte) rfl dS_coder_14 rfl ⟨rfl, rfl, rfl⟩
def SP_S_isLatin1_3 (Mz : mM) (r_ : Int32) : Prop := r_ = 1
set_option maxHeartbeats 4000000 in
set_option maxRecDepth 100000 in
theorem c_S_isLatin1_3 {cls : List rf} (l : Launch) (G : va_G) (cy : Nat → ClassId) (ad : rf → Nat) (d : Nat) (Mz : mM) : WP cls l G cy ad yS_isLatin1 cS_isLatin1 1 (some .boolean) d 0 [(0, vR (91, 3, 0))] [] Mz (fun r M' => Mz = M' ∧ (r = 1) ∧ SP_S_isLatin1_3 Mz r) := by
  refine w_getsC m_752 dS_isLatin1_0 ?_
  refine w_if_eq (tgt := 17) dS_isLatin1_3 (by decide) li_1 (fun h9 => (absurd h9 (by decide))) (fun h1_ => ?_)
  refine w_aload_n dS_isLatin1_6 rfl 0 rfl ?_
  refine w_getSc (k := 3) rfl m_1871 dS_isLatin1_7 ?_
  refine w_if_ne (tgt := 17) dS_isLatin1_10 (by decide) li_0 (fun h9 => (absurd h9 (by decide))) (fun h2_ => ?_)
  refine w_iconst (v := 1) dS_isLatin1_13 (by decide) ?_
  refine w_goto (tgt := 18) dS_isLatin1_14 (by decide) ?_
  exact w_zret rfl dS_isLatin1_18 ⟨by decide, by decide⟩ ⟨rfl, rfl, rfl⟩
def SP_S_length_3 (Mz : mM) (r_ : Int32) : Prop := (SP_S_coder_3 Mz (0 : Int32)) ∧ r_ = 5
set_option maxHeartbeats 4000000 in
set_option maxRecDepth 100000 in
theorem c_S_length_3 {cls : List rf} (l : Launch) (G : va_G) (cy : Nat → ClassId) (ad : rf → Nat) (d : Nat) (Mz : mM) : WP cls l G cy ad yS_length cS_length 1 (some .int) (d + 1) 0 [(0, vR (91, 3, 0))] [] Mz (fun r M' => Mz = M' ∧ (r = 5) ∧ SP_S_length_3 Mz r) := by
  refine w_aload_n dS_length_0 rfl 0 rfl ?_
  refine w_getSv (k := 3) rfl m_1872 dS_length_1 ?_
  refine w_alenS (k := 3) (v := 5) rfl dS_length_4 rfl ?_
  refine w_aload_n dS_length_5 rfl 0 rfl ?_
  refine w_callStr (k := 3) rfl (as := []) (rest := [vI 5]) (c_S_coder_3 l G cy ad d Mz) kV_S_coder (by decide +kernel) rfl (Nat.le_of_ble_eq_true rfl) m_758 rfl rfl (by decide) (Nat.le_of_ble_eq_true rfl) dS_length_6 (fun r1_ M2_ q3_ => ?_)
  obtain ⟨rfl, h4_, hs5_⟩ := q3_
  subst h4_
  refine w_ishr dS_length_9 (fun z6_ h7_ => ?_)
  obtain rfl : z6_ = 5 := h7_.trans (by decide)
  exact w_iret rfl dS_length_10 ⟨rfl, rfl, ⟨hs5_, rfl⟩⟩
def SP_SL_charAt_3 (v : Int32) (Mz : mM) (r_ : Int32) : Prop := ∃ z1_j : Nat, ((z1_j : Int) = v.toInt) ∧ ∃ z1_ : Int32, (z1_ = ([102, 108, 114, 98, 116] : List Int32).getD z1_j 0) ∧ ∃ z2_ : Int32, (z2_ = z1_ &&& (255 : Int32)) ∧ (0 ≤ z2_.toInt ∧ z2_.toInt < ((2 ^ 8 : Nat) : Int)) ∧ ∃ z5_ : Int32, (z5_ = (z2_.toUInt32 % 65536).toInt32) ∧ (narrow .char (.int z5_) = .int z5_) ∧ r_ = z5_
theorem lf_c_SL_charAt_3_0  (v : Int32) (hv : 0 ≤ v.toInt ∧ v.toInt < 5) : 0 ≤ v.toInt ∧ v.toInt < 5 := by have r_v := rngI v; omega
theorem lf_c_SL_charAt_3_1  (v : Int32) (hv : 0 ≤ v.toInt ∧ v.toInt < 5) : 0 ≤ v.toInt ∧ v.toInt < 5 := by have r_v := rngI v; omega
set_option maxHeartbeats 4000000 in
set_option maxRecDepth 100000 in
theorem c_SL_charAt_3 {cls : List rf} (l : Launch) (G : va_G) (cy : Nat → ClassId) (ad : rf → Nat) (d : Nat) (v : Int32) (Mz : mM) (hv : 0 ≤ v.toInt ∧ v.toInt < 5) : WP cls l G cy ad ySL_charAt cSL_charAt 2 (some .char) (d + 3) 0 [(0, vR (90, 13, 0)), (1, vI v)] [] Mz (fun r M' => Mz = M' ∧ (narrow .char (.int r) = .int r) ∧ SP_SL_charAt_3 v Mz r) := by
  refine w_iload_n dSL_charAt_0 rfl 1 rfl ?_
  refine w_aload_n dSL_charAt_1 rfl 0 rfl ?_
  refine w_alenS (k := 3) (v := 5) rfl dSL_charAt_2 rfl ?_
  refine w_checkIndex m_1607 (lf_c_SL_charAt_3_0 v hv) li_5 (Nat.le_of_ble_eq_true rfl) (by omega) dSL_charAt_3 ?_
  refine w_aload_n dSL_charAt_6 rfl 0 rfl ?_
  refine w_iload_n dSL_charAt_7 rfl 1 rfl ?_
  refine w_baldS (k := 3) rfl (rfl : v.toInt = v.toInt) (lf_c_SL_charAt_3_1 v hv) dSL_charAt_8 (fun z1_j z1_k z1_ z1_h => ?_)
  refine w_sipush (v := 255) dSL_charAt_9 (by decide) ?_
  refine w_iand dSL_charAt_12 (fun z2_ h4_ => ?_)
  have h3_ : 0 ≤ z2_.toInt ∧ z2_.toInt < ((2 ^ 8 : Nat) : Int) := by rw [h4_]; exact andI _ 8 (by decide) (by decide)
  refine w_i2c dSL_charAt_13 (fun z5_ h6_ => ?_)
  have h7_ : narrow .char (.int z5_) = .int z5_ := by rw [h6_]; exact nar_c _
  exact w_bret (ty := .char) rfl dSL_charAt_14 h7_ ⟨rfl, h7_, ⟨z1_j, z1_k, z1_, z1_h, z2_, h4_, h3_, z5_, h6_, h7_, rfl⟩⟩
def SP_S_charAt_3 (v : Int32) (Mz : mM) (r_ : Int32) : Prop := (SP_S_isLatin1_3 Mz (1 : Int32)) ∧ ∃ r7_ : Int32, (SP_SL_charAt_3 v Mz r7_) ∧ (narrow .char (.int r7_) = .int r7_) ∧ r_ = r7_
set_option maxHeartbeats 4000000 in
set_option maxRecDepth 100000 in
theorem c_S_charAt_3 {cls : List rf} (l : Launch) (G : va_G) (cy : Nat → ClassId) (ad : rf → Nat) (d : Nat) (v : Int32) (Mz : mM) (hv : 0 ≤ v.toInt ∧ v.toInt < 5) : WP cls l G cy ad yS_charAt cS_charAt 2 (some .char) (d + 4) 0 [(0, vR (91, 3, 0)), (1, vI v)] [] Mz (fun r M' => Mz = M' ∧ (narrow .char (.int r) = .int r) ∧ SP_S_charAt_3 v Mz r) := by
  refine w_aload_n dS_charAt_0 rfl 0 rfl ?_
  refine w_callStr (k := 3) rfl (as := []) (rest := []) (c_S_isLatin1_3 l G cy ad (d + 3) Mz) kV_S_isLatin1 (by decide +kernel) rfl (Nat.le_of_ble_eq_true rfl) m_748 rfl rfl (by decide) (Nat.le_of_ble_eq_true rfl) dS_charAt_1 (fun r1_ M2_ q3_ => ?_)
  obtain ⟨rfl, h4_, hs5_⟩ := q3_
  subst h4_
  refine w_if_eq (tgt := 16) dS_charAt_4 (by decide) li_1 (fun h9 => (absurd h9 (by decide))) (fun h6_ => ?_)
  refine w_aload_n dS_charAt_7 rfl 0 rfl ?_
  refine w_getSv (k := 3) rfl m_1872 dS_charAt_8 ?_
  refine w_iload_n dS_charAt_11 rfl 1 rfl ?_
  refine w_callS (as := [vR (90, 13, 0), vI v]) (rest := []) (c_SL_charAt_3 l G cy ad d v Mz hv) kS_SL_charAt (by decide +kernel) (Nat.le_of_ble_eq_true rfl) m_1604 rfl rfl (by decide) (Nat.le_of_ble_eq_true rfl) dS_charAt_12 (fun r7_ M8_ q9_ => ?_)
  obtain ⟨rfl, h10_, hs11_⟩ := q9_
  exact w_bret (ty := .char) rfl dS_charAt_15 h10_ ⟨rfl, h10_, ⟨hs5_, r7_, hs11_, h10_, rfl⟩⟩
def ST_SL_indexOfChar_3_7 (t : Int32) (z1_ : Int32) (v5_7 : Int32) (v5_7y : Int32) : Prop := (0 ≤ v5_7.toInt) ∧ (v5_7.toInt < t.toInt) ∧ ∃ z5_j : Nat, ((z5_j : Int) = v5_7.toInt) ∧ ∃ z5_ : Int32, (z5_ = ([102, 108, 114, 98, 116] : List Int32).getD z5_j 0) ∧ (¬ z5_.toInt = z1_.toInt) ∧ ∃ z7_ : Int32, (z7_.toInt = v5_7.toInt + 1) ∧ v5_7y = z7_
def SP_SL_indexOfChar_3 (v : Int32) (u : Int32) (t : Int32) (Mz : mM) (r_ : Int32) : Prop := ∃ z1_ : Int32, (z1_ = v.toInt8.toInt32) ∧ ∃ v5_7 : Int32, (0 ≤ v5_7.toInt) ∧ (RCH (fun x_ y_ => ST_SL_indexOfChar_3_7 t z1_ x_ y_) u v5_7) ∧ (((t.toInt ≤ v5_7.toInt) ∧ r_ = (-1)) ∨ ((v5_7.toInt < t.toInt) ∧ ∃ z5_j : Nat, ((z5_j : Int) = v5_7.toInt) ∧ ∃ z5_ : Int32, (z5_ = ([102, 108, 114, 98, 116] : List Int32).getD z5_j 0) ∧ (z5_.toInt = z1_.toInt) ∧ r_ = v5_7))
theorem lf_c_SL_indexOfChar_3_0  (t : Int32) (v5_7 : Int32) (ht : t.toInt ≤ 5) (hv0_7 : 0 ≤ v5_7.toInt) (h4_ : v5_7.toInt < t.toInt) : 0 ≤ v5_7.toInt ∧ v5_7.toInt < 5 := by have r_t := rngI t; have r_v5_7 := rngI v5_7; omega
theorem lf_c_SL_indexOfChar_3_1  (t : Int32) (v5_7 : Int32) (ht : t.toInt ≤ 5) (hv0_7 : 0 ≤ v5_7.toInt) (h4_ : v5_7.toInt < t.toInt) : -2147483648 ≤ v5_7.toInt + 1 ∧ v5_7.toInt + 1 < 2147483648 := by have r_t := rngI t; have r_v5_7 := rngI v5_7; omega
theorem lf_c_SL_indexOfChar_3_2  (t : Int32) (v5_7 : Int32) (z7_ : Int32) (ht : t.toInt ≤ 5) (hv0_7 : 0 ≤ v5_7.toInt) (h4_ : v5_7.toInt < t.toInt) (h8_ : z7_.toInt = v5_7.toInt + 1) : 0 ≤ z7_.toInt := by have r_t := rngI t; have r_v5_7 := rngI v5_7; have r_z7_ := rngI z7_; omega
theorem lf_c_SL_indexOfChar_3_3  (t : Int32) (v5_7 : Int32) (z7_ : Int32) (ht : t.toInt ≤ 5) (hv0_7 : 0 ≤ v5_7.toInt) (h4_ : v5_7.toInt < t.toInt) (h8_ : z7_.toInt = v5_7.toInt + 1) : (t.toInt - z7_.toInt).toNat < (t.toInt - v5_7.toInt).toNat := by have r_t := rngI t; have r_v5_7 := rngI v5_7; have r_z7_ := rngI z7_; omega
set_option maxHeartbeats 4000000 in
set_option maxRecDepth 100000 in
theorem c_SL_indexOfChar_3 {cls : List rf} (l : Launch) (G : va_G) (cy : Nat → ClassId) (ad : rf → Nat) (d : Nat) (v : Int32) (u : Int32) (t : Int32) (Mz : mM) (hu : 0 ≤ u.toInt) (ht : t.toInt ≤ 5) : WP cls l G cy ad ySL_indexOfChar cSL_indexOfChar 6 (some .int) d 0 [(0, vR (90, 13, 0)), (1, vI v), (2, vI u), (3, vI t)] [] Mz (fun r M' => Mz = M' ∧ (True) ∧ SP_SL_indexOfChar_3 v u t Mz r) := by
  refine w_iload_n dSL_indexOfChar_0 rfl 1 rfl ?_
  refine w_i2b dSL_indexOfChar_1 (fun z1_ h2_ => ?_)
  refine w_istore (ls' := [(4, vI z1_), (0, vR (90, 13, 0)), (1, vI v), (2, vI u), (3, vI t)]) dSL_indexOfChar_2 (by decide) rfl ?_
  refine w_iload_n dSL_indexOfChar_4 rfl 3 rfl ?_
  refine w_istore (ls' := [(5, vI u), (4, vI z1_), (0, vR (90, 13, 0)), (1, vI v), (2, vI u), (3, vI t)]) dSL_indexOfChar_5 (by decide) rfl ?_
  have lp3_ : ∀ (nn_7 : Nat) (v5_7 : Int32) (hv0_7 : 0 ≤ v5_7.toInt) (hL_7 : RCH (fun x_ y_ => ST_SL_indexOfChar_3_7 t z1_ x_ y_) u v5_7), (t.toInt - v5_7.toInt).toNat < nn_7 → WP cls l G cy ad ySL_indexOfChar cSL_indexOfChar 6 (some .int) d 7 [(5, vI v5_7), (4, vI z1_), (0, vR (90, 13, 0)), (1, vI v), (2, vI u), (3, vI t)] [] Mz (fun r M' => Mz = M' ∧ (True) ∧ SP_SL_indexOfChar_3 v u t Mz r) := by
    intro nn_7
    induction nn_7 with
    | zero => intro v5_7 hv0_7 hL_7 hm_7; exact absurd hm_7 (Nat.not_lt_zero _)
    | succ nn_7 ih_7 =>
      intro v5_7 hv0_7 hL_7 hm_7
      refine w_iload dSL_indexOfChar_7 0 rfl ?_
      refine w_iload_n dSL_indexOfChar_9 rfl 5 rfl ?_
      refine w_icmp_ge (tgt := 31) dSL_indexOfChar_10 (by decide) (rfl : v5_7.toInt = v5_7.toInt) (rfl : t.toInt = t.toInt) (fun h4_ => ?_) (fun h4_ => ?_)
      · refine w_iconst (v := (-1)) dSL_indexOfChar_31 (by decide) ?_
        exact w_iret rfl dSL_indexOfChar_32 ⟨rfl, trivial, ⟨z1_, h2_, v5_7, hv0_7, hL_7, (Or.inl ⟨h4_, rfl⟩)⟩⟩
      · refine w_aload_n dSL_indexOfChar_13 rfl 2 rfl ?_
        refine w_iload dSL_indexOfChar_14 0 rfl ?_
        refine w_baldS (k := 3) rfl (rfl : v5_7.toInt = v5_7.toInt) (lf_c_SL_indexOfChar_3_0 t v5_7 ht hv0_7 h4_) dSL_indexOfChar_16 (fun z5_j z5_k z5_ z5_h => ?_)
        refine w_iload dSL_indexOfChar_17 1 rfl ?_
        refine w_icmp_ne (tgt := 25) dSL_indexOfChar_19 (by decide) (rfl : z5_.toInt = z5_.toInt) (rfl : z1_.toInt = z1_.toInt) (fun h6_ => ?_) (fun h6_ => ?_)
        · refine w_iincB (j := 0) (f := fun z7_ => [(5, vI z7_), (4, vI z1_), (0, vR (90, 13, 0)), (1, vI v), (2, vI u), (3, vI t)]) dSL_indexOfChar_25 rfl (by decide) (fun _ => rfl) (rfl : v5_7.toInt = v5_7.toInt) li_1 (lf_c_SL_indexOfChar_3_1 t v5_7 ht hv0_7 h4_) (fun z7_ h8_ => ?_)
          refine w_goto (tgt := 7) dSL_indexOfChar_28 (by decide) ?_
          refine w_loc (ls' := [(5, vI z7_), (4, vI z1_), (0, vR (90, 13, 0)), (1, vI v), (2, vI u), (3, vI t)]) [0, 1, 2, 3, 4, 5] rfl ?_
          exact ih_7 z7_ (lf_c_SL_indexOfChar_3_2 t v5_7 z7_ ht hv0_7 h4_ h8_) (RCH.tail hL_7 ⟨hv0_7, h4_, z5_j, z5_k, z5_, z5_h, h6_, z7_, h8_, rfl⟩) (Nat.lt_of_lt_of_le (lf_c_SL_indexOfChar_3_3 t v5_7 z7_ ht hv0_7 h4_ h8_) (Nat.le_of_lt_succ hm_7))
        · refine w_iload dSL_indexOfChar_22 0 rfl ?_
          exact w_iret rfl dSL_indexOfChar_24 ⟨rfl, trivial, ⟨z1_, h2_, v5_7, hv0_7, hL_7, (Or.inr ⟨h4_, z5_j, z5_k, z5_, z5_h, h6_, rfl⟩)⟩⟩
  exact lp3_ _ u hu RCH.refl (Nat.lt_succ_self _)
def SP_SL_indexOf_3 (v : Int32) (u : Int32) (t : Int32) (Mz : mM) (r_ : Int32) : Prop := ∃ r1_ : Int32, (SP_SL_canEncode_0 v Mz r1_) ∧ ((0 ≤ r1_.toInt ∧ r1_.toInt ≤ 1)) ∧ (((¬ r1_.toInt = 0) ∧ ∃ z7_ : Int32, ((z7_.toInt = u.toInt ∧ 0 ≤ u.toInt) ∨ (z7_.toInt = 0 ∧ u.toInt ≤ 0)) ∧ ∃ z9_ : Int32, ((z9_.toInt = t.toInt ∧ t.toInt ≤ 5) ∨ (z9_.toInt = 5 ∧ 5 ≤ t.toInt)) ∧ (((z7_.toInt < z9_.toInt) ∧ ∃ r12_ : Int32, (SP_SL_indexOfChar_3 v z7_ z9_ Mz r12_) ∧ r_ = r12_) ∨ ((z9_.toInt ≤ z7_.toInt) ∧ r_ = (-1)))) ∨ ((r1_.toInt = 0) ∧ r_ = (-1)))
theorem lf_c_SL_indexOf_3_0  (u : Int32) (t : Int32) (z7_ : Int32) (z9_ : Int32) (h8_ : (z7_.toInt = u.toInt ∧ 0 ≤ u.toInt) ∨ (z7_.toInt = 0 ∧ u.toInt ≤ 0)) (h10_ : (z9_.toInt = t.toInt ∧ t.toInt ≤ 5) ∨ (z9_.toInt = 5 ∧ 5 ≤ t.toInt)) (h11_ : z7_.toInt < z9_.toInt) : 0 ≤ z7_.toInt := by have r_u := rngI u; have r_t := rngI t; have r_z7_ := rngI z7_; have r_z9_ := rngI z9_; omega
theorem lf_c_SL_indexOf_3_1  (u : Int32) (t : Int32) (z7_ : Int32) (z9_ : Int32) (h8_ : (z7_.toInt = u.toInt ∧ 0 ≤ u.toInt) ∨ (z7_.toInt = 0 ∧ u.toInt ≤ 0)) (h10_ : (z9_.toInt = t.toInt ∧ t.toInt ≤ 5) ∨ (z9_.toInt = 5 ∧ 5 ≤ t.toInt)) (h11_ : z7_.toInt < z9_.toInt) : z9_.toInt ≤ 5 := by have r_u := rngI u; have r_t := rngI t; have r_z7_ := rngI z7_; have r_z9_ := rngI z9_; omega
set_option maxHeartbeats 4000000 in
set_option maxRecDepth 100000 in
theorem c_SL_indexOf_3 {cls : List rf} (l : Launch) (G : va_G) (cy : Nat → ClassId) (ad : rf → Nat) (d : Nat) (v : Int32) (u : Int32) (t : Int32) (Mz : mM) : WP cls l G cy ad ySL_indexOf cSL_indexOf 4 (some .int) (d + 1) 0 [(0, vR (90, 13, 0)), (1, vI v), (2, vI u), (3, vI t)] [] Mz (fun r M' => Mz = M' ∧ (True) ∧ SP_SL_indexOf_3 v u t Mz r) := by
  refine w_iload_n dSL_indexOf_0 rfl 1 rfl ?_
  refine w_callS (as := [vI v]) (rest := []) (c_SL_canEncode_0 l G cy ad d v Mz) kS_SL_canEncode (by decide +kernel) (Nat.le_of_ble_eq_true rfl) m_765 rfl rfl (by decide) (Nat.le_of_ble_eq_true rfl) dSL_indexOf_1 (fun r1_ M2_ q3_ => ?_)
  obtain ⟨rfl, h4_, hs5_⟩ := q3_
  refine w_if_ne (tgt := 9) dSL_indexOf_4 (by decide) (rfl : r1_.toInt = r1_.toInt) (fun h6_ => ?_) (fun h6_ => ?_)
  · refine w_iload_n dSL_indexOf_9 rfl 2 rfl ?_
    refine w_iconst (v := 0) dSL_indexOf_10 (by decide) ?_
    refine w_max m_768 m_206 m_86 m_207 (rfl : u.toInt = u.toInt) li_0 (Nat.le_of_ble_eq_true rfl) (by omega) dSL_indexOf_11 (fun z7_ h8_ => ?_)
    refine w_istore_n (ls' := [(2, vI z7_), (0, vR (90, 13, 0)), (1, vI v), (3, vI t)]) dSL_indexOf_14 rfl (by decide) rfl ?_
    refine w_iload_n dSL_indexOf_15 rfl 3 rfl ?_
    refine w_aload_n dSL_indexOf_16 rfl 1 rfl ?_
    refine w_alenS (k := 3) (v := 5) rfl dSL_indexOf_17 rfl ?_
    refine w_min m_769 m_770 m_86 m_771 (rfl : t.toInt = t.toInt) li_5 (Nat.le_of_ble_eq_true rfl) (by omega) dSL_indexOf_18 (fun z9_ h10_ => ?_)
    refine w_istore_n (ls' := [(3, vI z9_), (2, vI z7_), (0, vR (90, 13, 0)), (1, vI v)]) dSL_indexOf_21 rfl (by decide) rfl ?_
    refine w_iload_n dSL_indexOf_22 rfl 1 rfl ?_
    refine w_iload_n dSL_indexOf_23 rfl 0 rfl ?_
    refine w_icmp_lt (tgt := 29) dSL_indexOf_24 (by decide) (rfl : z7_.toInt = z7_.toInt) (rfl : z9_.toInt = z9_.toInt) (fun h11_ => ?_) (fun h11_ => ?_)
    · refine w_aload_n dSL_indexOf_29 rfl 2 rfl ?_
      refine w_iload_n dSL_indexOf_30 rfl 3 rfl ?_
      refine w_iload_n dSL_indexOf_31 rfl 1 rfl ?_
      refine w_iload_n dSL_indexOf_32 rfl 0 rfl ?_
      refine w_callS (as := [vR (90, 13, 0), vI v, vI z7_, vI z9_]) (rest := []) (c_SL_indexOfChar_3 l G cy ad d v z7_ z9_ Mz (lf_c_SL_indexOf_3_0 u t z7_ z9_ h8_ h10_ h11_) (lf_c_SL_indexOf_3_1 u t z7_ z9_ h8_ h10_ h11_)) kS_SL_indexOfChar (by decide +kernel) (Nat.le_of_ble_eq_true rfl) m_772 rfl rfl (by decide) (Nat.le_of_ble_eq_true rfl) dSL_indexOf_33 (fun r12_ M13_ q14_ => ?_)
      obtain ⟨rfl, h15_, hs16_⟩ := q14_
      exact w_iret rfl dSL_indexOf_36 ⟨rfl, trivial, ⟨r1_, hs5_, h4_, (Or.inl ⟨h6_, z7_, h8_, z9_, h10_, (Or.inl ⟨h11_, r12_, hs16_, rfl⟩)⟩)⟩⟩
    · refine w_iconst (v := (-1)) dSL_indexOf_27 (by decide) ?_
      exact w_iret rfl dSL_indexOf_28 ⟨rfl, trivial, ⟨r1_, hs5_, h4_, (Or.inl ⟨h6_, z7_, h8_, z9_, h10_, (Or.inr ⟨h11_, rfl⟩)⟩)⟩⟩
  · refine w_iconst (v := (-1)) dSL_indexOf_7 (by decide) ?_
    exact w_iret rfl dSL_indexOf_8 ⟨rfl, trivial, ⟨r1_, hs5_, h4_, (Or.inr ⟨h6_, rfl⟩)⟩⟩
def SP_S_indexOf2_3 (v : Int32) (u : Int32) (Mz : mM) (r_ : Int32) : Prop := (SP_S_isLatin1_3 Mz (1 : Int32)) ∧ (SP_S_length_3 Mz (5 : Int32)) ∧ ∃ r12_ : Int32, (SP_SL_indexOf_3 v u 5 Mz r12_) ∧ r_ = r12_
set_option maxHeartbeats 4000000 in
set_option maxRecDepth 100000 in
theorem c_S_indexOf2_3 {cls : List rf} (l : Launch) (G : va_G) (cy : Nat → ClassId) (ad : rf → Nat) (d : Nat) (v : Int32) (u : Int32) (Mz : mM) : WP cls l G cy ad yS_indexOf2 cS_indexOf2 3 (some .int) (d + 2) 0 [(0, vR (91, 3, 0)), (1, vI v), (2, vI u)] [] Mz (fun r M' => Mz = M' ∧ (True) ∧ SP_S_indexOf2_3 v u Mz r) := by
  refine w_aload_n dS_indexOf2_0 rfl 0 rfl ?_
  refine w_callStr (k := 3) rfl (as := []) (rest := []) (c_S_isLatin1_3 l G cy ad (d + 1) Mz) kV_S_isLatin1 (by decide +kernel) rfl (Nat.le_of_ble_eq_true rfl) m_748 rfl rfl (by decide) (Nat.le_of_ble_eq_true rfl) dS_indexOf2_1 (fun r1_ M2_ q3_ => ?_)
  obtain ⟨rfl, h4_, hs5_⟩ := q3_
  subst h4_
  refine w_if_eq (tgt := 23) dS_indexOf2_4 (by decide) li_1 (fun h9 => (absurd h9 (by decide))) (fun h6_ => ?_)
  refine w_aload_n dS_indexOf2_7 rfl 0 rfl ?_
  refine w_getSv (k := 3) rfl m_1872 dS_indexOf2_8 ?_
  refine w_iload_n dS_indexOf2_11 rfl 1 rfl ?_
  refine w_iload_n dS_indexOf2_12 rfl 2 rfl ?_
  refine w_aload_n dS_indexOf2_13 rfl 0 rfl ?_
  refine w_callStr (k := 3) rfl (as := []) (rest := [vI u, vI v, vR (90, 13, 0)]) (c_S_length_3 l G cy ad d Mz) kV_S_length (by decide +kernel) rfl (Nat.le_of_ble_eq_true rfl) m_754 rfl rfl (by decide) (Nat.le_of_ble_eq_true rfl) dS_indexOf2_14 (fun r7_ M8_ q9_ => ?_)
  obtain ⟨rfl, h10_, hs11_⟩ := q9_
  subst h10_
  refine w_callS (as := [vR (90, 13, 0), vI v, vI u, vI 5]) (rest := []) (c_SL_indexOf_3 l G cy ad d v u 5 Mz) kS_SL_indexOf (by decide +kernel) (Nat.le_of_ble_eq_true rfl) m_762 rfl rfl (by decide) (Nat.le_of_ble_eq_true rfl) dS_indexOf2_17 (fun r12_ M13_ q14_ => ?_)
  obtain ⟨rfl, h15_, hs16_⟩ := q14_
  refine w_goto (tgt := 36) dS_indexOf2_20 (by decide) ?_
  exact w_iret rfl dS_indexOf2_36 ⟨rfl, trivial, ⟨hs5_, hs11_, r12_, hs16_, rfl⟩⟩
def SP_S_indexOf_3 (v : Int32) (Mz : mM) (r_ : Int32) : Prop := ∃ r1_ : Int32, (SP_S_indexOf2_3 v 0 Mz r1_) ∧ r_ = r1_
set_option maxHeartbeats 4000000 in
set_option maxRecDepth 100000 in
theorem c_S_indexOf_3 {cls : List rf} (l : Launch) (G : va_G) (cy : Nat → ClassId) (ad : rf → Nat) (d : Nat) (v : Int32) (Mz : mM) : WP cls l G cy ad yS_indexOf cS_indexOf 2 (some .int) (d + 3) 0 [(0, vR (91, 3, 0)), (1, vI v)] [] Mz (fun r M' => Mz = M' ∧ (True) ∧ SP_S_indexOf_3 v Mz r) := by
  refine w_aload_n dS_indexOf_0 rfl 0 rfl ?_
  refine w_iload_n dS_indexOf_1 rfl 1 rfl ?_
  refine w_iconst (v := 0) dS_indexOf_2 (by decide) ?_
  refine w_callStr (k := 3) rfl (as := [vI v, vI 0]) (rest := []) (c_S_indexOf2_3 l G cy ad d v 0 Mz) kV_S_indexOf2 (by decide +kernel) rfl (Nat.le_of_ble_eq_true rfl) m_744 rfl rfl (by decide) (Nat.le_of_ble_eq_true rfl) dS_indexOf_3 (fun r1_ M2_ q3_ => ?_)
  obtain ⟨rfl, h4_, hs5_⟩ := q3_
  exact w_iret rfl dS_indexOf_6 ⟨rfl, trivial, ⟨r1_, hs5_, rfl⟩⟩
def SP_S_coder_4 (Mz : mM) (r_ : Int32) : Prop := r_ = 0
set_option maxHeartbeats 4000000 in
set_option maxRecDepth 100000 in
theorem c_S_coder_4 {cls : List rf} (l : Launch) (G : va_G) (cy : Nat → ClassId) (ad : rf → Nat) (d : Nat) (Mz : mM) : WP cls l G cy ad yS_coder cS_coder 1 (some .byte) d 0 [(0, vR (91, 4, 0))] [] Mz (fun r M' => Mz = M' ∧ (r = 0) ∧ SP_S_coder_4 Mz r) := by
  refine w_getsC m_752 dS_coder_0 ?_
  refine w_if_eq (tgt := 13) dS_coder_3 (by decide) li_1 (fun h9 => (absurd h9 (by decide))) (fun h1_ => ?_)
  refine w_aload_n dS_coder_6 rfl 0 rfl ?_
  refine w_getSc (k := 4) rfl m_1871 dS_coder_7 ?_
  refine w_goto (tgt := 14) dS_coder_10 (by decide) ?_
  exact w_bret (ty := .byte) rfl dS_coder_14 rfl ⟨rfl, rfl, rfl⟩
def SP_S_isLatin1_4 (Mz : mM) (r_ : Int32) : Prop := r_ = 1
set_option maxHeartbeats 4000000 in
set_option maxRecDepth 100000 in
theorem c_S_isLatin1_4 {cls : List rf} (l : Launch) (G : va_G) (cy : Nat → ClassId) (ad : rf → Nat) (d : Nat) (Mz : mM) : WP cls l G cy ad yS_isLatin1 cS_isLatin1 1 (some .boolean) d 0 [(0, vR (91, 4, 0))] [] Mz (fun r M' => Mz = M' ∧ (r = 1) ∧ SP_S_isLatin1_4 Mz r) := by
  refine w_getsC m_752 dS_isLatin1_0 ?_
  refine w_if_eq (tgt := 17) dS_isLatin1_3 (by decide) li_1 (fun h9 => (absurd h9 (by decide))) (fun h1_ => ?_)
  refine w_aload_n dS_isLatin1_6 rfl 0 rfl ?_
  refine w_getSc (k := 4) rfl m_1871 dS_isLatin1_7 ?_
  refine w_if_ne (tgt := 17) dS_isLatin1_10 (by decide) li_0 (fun h9 => (absurd h9 (by decide))) (fun h2_ => ?_)
  refine w_iconst (v := 1) dS_isLatin1_13 (by decide) ?_
  refine w_goto (tgt := 18) dS_isLatin1_14 (by decide) ?_
  exact w_zret rfl dS_isLatin1_18 ⟨by decide, by decide⟩ ⟨rfl, rfl, rfl⟩
def SP_S_length_4 (Mz : mM) (r_ : Int32) : Prop := (SP_S_coder_4 Mz (0 : Int32)) ∧ r_ = 4
set_option maxHeartbeats 4000000 in
set_option maxRecDepth 100000 in
theorem c_S_length_4 {cls : List rf} (l : Launch) (G : va_G) (cy : Nat → ClassId) (ad : rf → Nat) (d : Nat) (Mz : mM) : WP cls l G cy ad yS_length cS_length 1 (some .int) (d + 1) 0 [(0, vR (91, 4, 0))] [] Mz (fun r M' => Mz = M' ∧ (r = 4) ∧ SP_S_length_4 Mz r) := by
  refine w_aload_n dS_length_0 rfl 0 rfl ?_
  refine w_getSv (k := 4) rfl m_1872 dS_length_1 ?_
  refine w_alenS (k := 4) (v := 4) rfl dS_length_4 rfl ?_
  refine w_aload_n dS_length_5 rfl 0 rfl ?_
  refine w_callStr (k := 4) rfl (as := []) (rest := [vI 4]) (c_S_coder_4 l G cy ad d Mz) kV_S_coder (by decide +kernel) rfl (Nat.le_of_ble_eq_true rfl) m_758 rfl rfl (by decide) (Nat.le_of_ble_eq_true rfl) dS_length_6 (fun r1_ M2_ q3_ => ?_)
  obtain ⟨rfl, h4_, hs5_⟩ := q3_
  subst h4_
  refine w_ishr dS_length_9 (fun z6_ h7_ => ?_)
  obtain rfl : z6_ = 4 := h7_.trans (by decide)
  exact w_iret rfl dS_length_10 ⟨rfl, rfl, ⟨hs5_, rfl⟩⟩
def SP_SL_charAt_4 (v : Int32) (Mz : mM) (r_ : Int32) : Prop := ∃ z1_j : Nat, ((z1_j : Int) = v.toInt) ∧ ∃ z1_ : Int32, (z1_ = ([108, 111, 121, 112] : List Int32).getD z1_j 0) ∧ ∃ z2_ : Int32, (z2_ = z1_ &&& (255 : Int32)) ∧ (0 ≤ z2_.toInt ∧ z2_.toInt < ((2 ^ 8 : Nat) : Int)) ∧ ∃ z5_ : Int32, (z5_ = (z2_.toUInt32 % 65536).toInt32) ∧ (narrow .char (.int z5_) = .int z5_) ∧ r_ = z5_
theorem lf_c_SL_charAt_4_0  (v : Int32) (hv : 0 ≤ v.toInt ∧ v.toInt < 4) : 0 ≤ v.toInt ∧ v.toInt < 4 := by have r_v := rngI v; omega
theorem lf_c_SL_charAt_4_1  (v : Int32) (hv : 0 ≤ v.toInt ∧ v.toInt < 4) : 0 ≤ v.toInt ∧ v.toInt < 4 := by have r_v := rngI v; omega
set_option maxHeartbeats 4000000 in
set_option maxRecDepth 100000 in
theorem c_SL_charAt_4 {cls : List rf} (l : Launch) (G : va_G) (cy : Nat → ClassId) (ad : rf → Nat) (d : Nat) (v : Int32) (Mz : mM) (hv : 0 ≤ v.toInt ∧ v.toInt < 4) : WP cls l G cy ad ySL_charAt cSL_charAt 2 (some .char) (d + 3) 0 [(0, vR (90, 14, 0)), (1, vI v)] [] Mz (fun r M' => Mz = M' ∧ (narrow .char (.int r) = .int r) ∧ SP_SL_charAt_4 v Mz r) := by
  refine w_iload_n dSL_charAt_0 rfl 1 rfl ?_
  refine w_aload_n dSL_charAt_1 rfl 0 rfl ?_
  refine w_alenS (k := 4) (v := 4) rfl dSL_charAt_2 rfl ?_
  refine w_checkIndex m_1607 (lf_c_SL_charAt_4_0 v hv) li_4 (Nat.le_of_ble_eq_true rfl) (by omega) dSL_charAt_3 ?_
  refine w_aload_n dSL_charAt_6 rfl 0 rfl ?_
  refine w_iload_n dSL_charAt_7 rfl 1 rfl ?_
  refine w_baldS (k := 4) rfl (rfl : v.toInt = v.toInt) (lf_c_SL_charAt_4_1 v hv) dSL_charAt_8 (fun z1_j z1_k z1_ z1_h => ?_)
  refine w_sipush (v := 255) dSL_charAt_9 (by decide) ?_
  refine w_iand dSL_charAt_12 (fun z2_ h4_ => ?_)
  have h3_ : 0 ≤ z2_.toInt ∧ z2_.toInt < ((2 ^ 8 : Nat) : Int) := by rw [h4_]; exact andI _ 8 (by decide) (by decide)
  refine w_i2c dSL_charAt_13 (fun z5_ h6_ => ?_)
  have h7_ : narrow .char (.int z5_) = .int z5_ := by rw [h6_]; exact nar_c _
  exact w_bret (ty := .char) rfl dSL_charAt_14 h7_ ⟨rfl, h7_, ⟨z1_j, z1_k, z1_, z1_h, z2_, h4_, h3_, z5_, h6_, h7_, rfl⟩⟩
def SP_S_charAt_4 (v : Int32) (Mz : mM) (r_ : Int32) : Prop := (SP_S_isLatin1_4 Mz (1 : Int32)) ∧ ∃ r7_ : Int32, (SP_SL_charAt_4 v Mz r7_) ∧ (narrow .char (.int r7_) = .int r7_) ∧ r_ = r7_
set_option maxHeartbeats 4000000 in
set_option maxRecDepth 100000 in
theorem c_S_charAt_4 {cls : List rf} (l : Launch) (G : va_G) (cy : Nat → ClassId) (ad : rf → Nat) (d : Nat) (v : Int32) (Mz : mM) (hv : 0 ≤ v.toInt ∧ v.toInt < 4) : WP cls l G cy ad yS_charAt cS_charAt 2 (some .char) (d + 4) 0 [(0, vR (91, 4, 0)), (1, vI v)] [] Mz (fun r M' => Mz = M' ∧ (narrow .char (.int r) = .int r) ∧ SP_S_charAt_4 v Mz r) := by
  refine w_aload_n dS_charAt_0 rfl 0 rfl ?_
  refine w_callStr (k := 4) rfl (as := []) (rest := []) (c_S_isLatin1_4 l G cy ad (d + 3) Mz) kV_S_isLatin1 (by decide +kernel) rfl (Nat.le_of_ble_eq_true rfl) m_748 rfl rfl (by decide) (Nat.le_of_ble_eq_true rfl) dS_charAt_1 (fun r1_ M2_ q3_ => ?_)
  obtain ⟨rfl, h4_, hs5_⟩ := q3_
  subst h4_
  refine w_if_eq (tgt := 16) dS_charAt_4 (by decide) li_1 (fun h9 => (absurd h9 (by decide))) (fun h6_ => ?_)
  refine w_aload_n dS_charAt_7 rfl 0 rfl ?_
  refine w_getSv (k := 4) rfl m_1872 dS_charAt_8 ?_
  refine w_iload_n dS_charAt_11 rfl 1 rfl ?_
  refine w_callS (as := [vR (90, 14, 0), vI v]) (rest := []) (c_SL_charAt_4 l G cy ad d v Mz hv) kS_SL_charAt (by decide +kernel) (Nat.le_of_ble_eq_true rfl) m_1604 rfl rfl (by decide) (Nat.le_of_ble_eq_true rfl) dS_charAt_12 (fun r7_ M8_ q9_ => ?_)
  obtain ⟨rfl, h10_, hs11_⟩ := q9_
  exact w_bret (ty := .char) rfl dS_charAt_15 h10_ ⟨rfl, h10_, ⟨hs5_, r7_, hs11_, h10_, rfl⟩⟩
def ST_SL_indexOfChar_4_7 (t : Int32) (z1_ : Int32) (v5_7 : Int32) (v5_7y : Int32) : Prop := (0 ≤ v5_7.toInt) ∧ (v5_7.toInt < t.toInt) ∧ ∃ z5_j : Nat, ((z5_j : Int) = v5_7.toInt) ∧ ∃ z5_ : Int32, (z5_ = ([108, 111, 121, 112] : List Int32).getD z5_j 0) ∧ (¬ z5_.toInt = z1_.toInt) ∧ ∃ z7_ : Int32, (z7_.toInt = v5_7.toInt + 1) ∧ v5_7y = z7_
def SP_SL_indexOfChar_4 (v : Int32) (u : Int32) (t : Int32) (Mz : mM) (r_ : Int32) : Prop := ∃ z1_ : Int32, (z1_ = v.toInt8.toInt32) ∧ ∃ v5_7 : Int32, (0 ≤ v5_7.toInt) ∧ (RCH (fun x_ y_ => ST_SL_indexOfChar_4_7 t z1_ x_ y_) u v5_7) ∧ (((t.toInt ≤ v5_7.toInt) ∧ r_ = (-1)) ∨ ((v5_7.toInt < t.toInt) ∧ ∃ z5_j : Nat, ((z5_j : Int) = v5_7.toInt) ∧ ∃ z5_ : Int32, (z5_ = ([108, 111, 121, 112] : List Int32).getD z5_j 0) ∧ (z5_.toInt = z1_.toInt) ∧ r_ = v5_7))
theorem lf_c_SL_indexOfChar_4_0  (t : Int32) (v5_7 : Int32) (ht : t.toInt ≤ 4) (hv0_7 : 0 ≤ v5_7.toInt) (h4_ : v5_7.toInt < t.toInt) : 0 ≤ v5_7.toInt ∧ v5_7.toInt < 4 := by have r_t := rngI t; have r_v5_7 := rngI v5_7; omega
theorem lf_c_SL_indexOfChar_4_1  (t : Int32) (v5_7 : Int32) (ht : t.toInt ≤ 4) (hv0_7 : 0 ≤ v5_7.toInt) (h4_ : v5_7.toInt < t.toInt) : -2147483648 ≤ v5_7.toInt + 1 ∧ v5_7.toInt + 1 < 2147483648 := by have r_t := rngI t; have r_v5_7 := rngI v5_7; omega
theorem lf_c_SL_indexOfChar_4_2  (t : Int32) (v5_7 : Int32) (z7_ : Int32) (ht : t.toInt ≤ 4) (hv0_7 : 0 ≤ v5_7.toInt) (h4_ : v5_7.toInt < t.toInt) (h8_ : z7_.toInt = v5_7.toInt + 1) : 0 ≤ z7_.toInt := by have r_t := rngI t; have r_v5_7 := rngI v5_7; have r_z7_ := rngI z7_; omega
theorem lf_c_SL_indexOfChar_4_3  (t : Int32) (v5_7 : Int32) (z7_ : Int32) (ht : t.toInt ≤ 4) (hv0_7 : 0 ≤ v5_7.toInt) (h4_ : v5_7.toInt < t.toInt) (h8_ : z7_.toInt = v5_7.toInt + 1) : (t.toInt - z7_.toInt).toNat < (t.toInt - v5_7.toInt).toNat := by have r_t := rngI t; have r_v5_7 := rngI v5_7; have r_z7_ := rngI z7_; omega
set_option maxHeartbeats 4000000 in
set_option maxRecDepth 100000 in
theorem c_SL_indexOfChar_4 {cls : List rf} (l : Launch) (G : va_G) (cy : Nat → ClassId) (ad : rf → Nat) (d : Nat) (v : Int32) (u : Int32) (t : Int32) (Mz : mM) (hu : 0 ≤ u.toInt) (ht : t.toInt ≤ 4) : WP cls l G cy ad ySL_indexOfChar cSL_indexOfChar 6 (some .int) d 0 [(0, vR (90, 14, 0)), (1, vI v), (2, vI u), (3, vI t)] [] Mz (fun r M' => Mz = M' ∧ (True) ∧ SP_SL_indexOfChar_4 v u t Mz r) := by
  refine w_iload_n dSL_indexOfChar_0 rfl 1 rfl ?_
  refine w_i2b dSL_indexOfChar_1 (fun z1_ h2_ => ?_)
  refine w_istore (ls' := [(4, vI z1_), (0, vR (90, 14, 0)), (1, vI v), (2, vI u), (3, vI t)]) dSL_indexOfChar_2 (by decide) rfl ?_
  refine w_iload_n dSL_indexOfChar_4 rfl 3 rfl ?_
  refine w_istore (ls' := [(5, vI u), (4, vI z1_), (0, vR (90, 14, 0)), (1, vI v), (2, vI u), (3, vI t)]) dSL_indexOfChar_5 (by decide) rfl ?_
  have lp3_ : ∀ (nn_7 : Nat) (v5_7 : Int32) (hv0_7 : 0 ≤ v5_7.toInt) (hL_7 : RCH (fun x_ y_ => ST_SL_indexOfChar_4_7 t z1_ x_ y_) u v5_7), (t.toInt - v5_7.toInt).toNat < nn_7 → WP cls l G cy ad ySL_indexOfChar cSL_indexOfChar 6 (some .int) d 7 [(5, vI v5_7), (4, vI z1_), (0, vR (90, 14, 0)), (1, vI v), (2, vI u), (3, vI t)] [] Mz (fun r M' => Mz = M' ∧ (True) ∧ SP_SL_indexOfChar_4 v u t Mz r) := by
    intro nn_7
    induction nn_7 with
    | zero => intro v5_7 hv0_7 hL_7 hm_7; exact absurd hm_7 (Nat.not_lt_zero _)
    | succ nn_7 ih_7 =>
      intro v5_7 hv0_7 hL_7 hm_7
      refine w_iload dSL_indexOfChar_7 0 rfl ?_
      refine w_iload_n dSL_indexOfChar_9 rfl 5 rfl ?_
      refine w_icmp_ge (tgt := 31) dSL_indexOfChar_10 (by decide) (rfl : v5_7.toInt = v5_7.toInt) (rfl : t.toInt = t.toInt) (fun h4_ => ?_) (fun h4_ => ?_)
      · refine w_iconst (v := (-1)) dSL_indexOfChar_31 (by decide) ?_
        exact w_iret rfl dSL_indexOfChar_32 ⟨rfl, trivial, ⟨z1_, h2_, v5_7, hv0_7, hL_7, (Or.inl ⟨h4_, rfl⟩)⟩⟩
      · refine w_aload_n dSL_indexOfChar_13 rfl 2 rfl ?_
        refine w_iload dSL_indexOfChar_14 0 rfl ?_
        refine w_baldS (k := 4) rfl (rfl : v5_7.toInt = v5_7.toInt) (lf_c_SL_indexOfChar_4_0 t v5_7 ht hv0_7 h4_) dSL_indexOfChar_16 (fun z5_j z5_k z5_ z5_h => ?_)
        refine w_iload dSL_indexOfChar_17 1 rfl ?_
        refine w_icmp_ne (tgt := 25) dSL_indexOfChar_19 (by decide) (rfl : z5_.toInt = z5_.toInt) (rfl : z1_.toInt = z1_.toInt) (fun h6_ => ?_) (fun h6_ => ?_)
        · refine w_iincB (j := 0) (f := fun z7_ => [(5, vI z7_), (4, vI z1_), (0, vR (90, 14, 0)), (1, vI v), (2, vI u), (3, vI t)]) dSL_indexOfChar_25 rfl (by decide) (fun _ => rfl) (rfl : v5_7.toInt = v5_7.toInt) li_1 (lf_c_SL_indexOfChar_4_1 t v5_7 ht hv0_7 h4_) (fun z7_ h8_ => ?_)
          refine w_goto (tgt := 7) dSL_indexOfChar_28 (by decide) ?_
          refine w_loc (ls' := [(5, vI z7_), (4, vI z1_), (0, vR (90, 14, 0)), (1, vI v), (2, vI u), (3, vI t)]) [0, 1, 2, 3, 4, 5] rfl ?_
          exact ih_7 z7_ (lf_c_SL_indexOfChar_4_2 t v5_7 z7_ ht hv0_7 h4_ h8_) (RCH.tail hL_7 ⟨hv0_7, h4_, z5_j, z5_k, z5_, z5_h, h6_, z7_, h8_, rfl⟩) (Nat.lt_of_lt_of_le (lf_c_SL_indexOfChar_4_3 t v5_7 z7_ ht hv0_7 h4_ h8_) (Nat.le_of_lt_succ hm_7))
        · refine w_iload dSL_indexOfChar_22 0 rfl ?_
          exact w_iret rfl dSL_indexOfChar_24 ⟨rfl, trivial, ⟨z1_, h2_, v5_7, hv0_7, hL_7, (Or.inr ⟨h4_, z5_j, z5_k, z5_, z5_h, h6_, rfl⟩)⟩⟩
  exact lp3_ _ u hu RCH.refl (Nat.lt_succ_self _)
def SP_SL_indexOf_4 (v : Int32) (u : Int32) (t : Int32) (Mz : mM) (r_ : Int32) : Prop := ∃ r1_ : Int32, (SP_SL_canEncode_0 v Mz r1_) ∧ ((0 ≤ r1_.toInt ∧ r1_.toInt ≤ 1)) ∧ (((¬ r1_.toInt = 0) ∧ ∃ z7_ : Int32, ((z7_.toInt = u.toInt ∧ 0 ≤ u.toInt) ∨ (z7_.toInt = 0 ∧ u.toInt ≤ 0)) ∧ ∃ z9_ : Int32, ((z9_.toInt = t.toInt ∧ t.toInt ≤ 4) ∨ (z9_.toInt = 4 ∧ 4 ≤ t.toInt)) ∧ (((z7_.toInt < z9_.toInt) ∧ ∃ r12_ : Int32, (SP_SL_indexOfChar_4 v z7_ z9_ Mz r12_) ∧ r_ = r12_) ∨ ((z9_.toInt ≤ z7_.toInt) ∧ r_ = (-1)))) ∨ ((r1_.toInt = 0) ∧ r_ = (-1)))
theorem lf_c_SL_indexOf_4_0  (u : Int32) (t : Int32) (z7_ : Int32) (z9_ : Int32) (h8_ : (z7_.toInt = u.toInt ∧ 0 ≤ u.toInt) ∨ (z7_.toInt = 0 ∧ u.toInt ≤ 0)) (h10_ : (z9_.toInt = t.toInt ∧ t.toInt ≤ 4) ∨ (z9_.toInt = 4 ∧ 4 ≤ t.toInt)) (h11_ : z7_.toInt < z9_.toInt) : 0 ≤ z7_.toInt := by have r_u := rngI u; have r_t := rngI t; have r_z7_ := rngI z7_; have r_z9_ := rngI z9_; omega
theorem lf_c_SL_indexOf_4_1  (u : Int32) (t : Int32) (z7_ : Int32) (z9_ : Int32) (h8_ : (z7_.toInt = u.toInt ∧ 0 ≤ u.toInt) ∨ (z7_.toInt = 0 ∧ u.toInt ≤ 0)) (h10_ : (z9_.toInt = t.toInt ∧ t.toInt ≤ 4) ∨ (z9_.toInt = 4 ∧ 4 ≤ t.toInt)) (h11_ : z7_.toInt < z9_.toInt) : z9_.toInt ≤ 4 := by have r_u := rngI u; have r_t := rngI t; have r_z7_ := rngI z7_; have r_z9_ := rngI z9_; omega
set_option maxHeartbeats 4000000 in
set_option maxRecDepth 100000 in
theorem c_SL_indexOf_4 {cls : List rf} (l : Launch) (G : va_G) (cy : Nat → ClassId) (ad : rf → Nat) (d : Nat) (v : Int32) (u : Int32) (t : Int32) (Mz : mM) : WP cls l G cy ad ySL_indexOf cSL_indexOf 4 (some .int) (d + 1) 0 [(0, vR (90, 14, 0)), (1, vI v), (2, vI u), (3, vI t)] [] Mz (fun r M' => Mz = M' ∧ (True) ∧ SP_SL_indexOf_4 v u t Mz r) := by
  refine w_iload_n dSL_indexOf_0 rfl 1 rfl ?_
  refine w_callS (as := [vI v]) (rest := []) (c_SL_canEncode_0 l G cy ad d v Mz) kS_SL_canEncode (by decide +kernel) (Nat.le_of_ble_eq_true rfl) m_765 rfl rfl (by decide) (Nat.le_of_ble_eq_true rfl) dSL_indexOf_1 (fun r1_ M2_ q3_ => ?_)
  obtain ⟨rfl, h4_, hs5_⟩ := q3_
  refine w_if_ne (tgt := 9) dSL_indexOf_4 (by decide) (rfl : r1_.toInt = r1_.toInt) (fun h6_ => ?_) (fun h6_ => ?_)
  · refine w_iload_n dSL_indexOf_9 rfl 2 rfl ?_
    refine w_iconst (v := 0) dSL_indexOf_10 (by decide) ?_
    refine w_max m_768 m_206 m_86 m_207 (rfl : u.toInt = u.toInt) li_0 (Nat.le_of_ble_eq_true rfl) (by omega) dSL_indexOf_11 (fun z7_ h8_ => ?_)
    refine w_istore_n (ls' := [(2, vI z7_), (0, vR (90, 14, 0)), (1, vI v), (3, vI t)]) dSL_indexOf_14 rfl (by decide) rfl ?_
    refine w_iload_n dSL_indexOf_15 rfl 3 rfl ?_
    refine w_aload_n dSL_indexOf_16 rfl 1 rfl ?_
    refine w_alenS (k := 4) (v := 4) rfl dSL_indexOf_17 rfl ?_
    refine w_min m_769 m_770 m_86 m_771 (rfl : t.toInt = t.toInt) li_4 (Nat.le_of_ble_eq_true rfl) (by omega) dSL_indexOf_18 (fun z9_ h10_ => ?_)
    refine w_istore_n (ls' := [(3, vI z9_), (2, vI z7_), (0, vR (90, 14, 0)), (1, vI v)]) dSL_indexOf_21 rfl (by decide) rfl ?_
    refine w_iload_n dSL_indexOf_22 rfl 1 rfl ?_
    refine w_iload_n dSL_indexOf_23 rfl 0 rfl ?_
    refine w_icmp_lt (tgt := 29) dSL_indexOf_24 (by decide) (rfl : z7_.toInt = z7_.toInt) (rfl : z9_.toInt = z9_.toInt) (fun h11_ => ?_) (fun h11_ => ?_)
    · refine w_aload_n dSL_indexOf_29 rfl 2 rfl ?_
      refine w_iload_n dSL_indexOf_30 rfl 3 rfl ?_
      refine w_iload_n dSL_indexOf_31 rfl 1 rfl ?_
      refine w_iload_n dSL_indexOf_32 rfl 0 rfl ?_
      refine w_callS (as := [vR (90, 14, 0), vI v, vI z7_, vI z9_]) (rest := []) (c_SL_indexOfChar_4 l G cy ad d v z7_ z9_ Mz (lf_c_SL_indexOf_4_0 u t z7_ z9_ h8_ h10_ h11_) (lf_c_SL_indexOf_4_1 u t z7_ z9_ h8_ h10_ h11_)) kS_SL_indexOfChar (by decide +kernel) (Nat.le_of_ble_eq_true rfl) m_772 rfl rfl (by decide) (Nat.le_of_ble_eq_true rfl) dSL_indexOf_33 (fun r12_ M13_ q14_ => ?_)
      obtain ⟨rfl, h15_, hs16_⟩ := q14_
      exact w_iret rfl dSL_indexOf_36 ⟨rfl, trivial, ⟨r1_, hs5_, h4_, (Or.inl ⟨h6_, z7_, h8_, z9_, h10_, (Or.inl ⟨h11_, r12_, hs16_, rfl⟩)⟩)⟩⟩
    · refine w_iconst (v := (-1)) dSL_indexOf_27 (by decide) ?_
      exact w_iret rfl dSL_indexOf_28 ⟨rfl, trivial, ⟨r1_, hs5_, h4_, (Or.inl ⟨h6_, z7_, h8_, z9_, h10_, (Or.inr ⟨h11_, rfl⟩)⟩)⟩⟩
  · refine w_iconst (v := (-1)) dSL_indexOf_7 (by decide) ?_
    exact w_iret rfl dSL_indexOf_8 ⟨rfl, trivial, ⟨r1_, hs5_, h4_, (Or.inr ⟨h6_, rfl⟩)⟩⟩
def SP_S_indexOf2_4 (v : Int32) (u : Int32) (Mz : mM) (r_ : Int32) : Prop := (SP_S_isLatin1_4 Mz (1 : Int32)) ∧ (SP_S_length_4 Mz (4 : Int32)) ∧ ∃ r12_ : Int32, (SP_SL_indexOf_4 v u 4 Mz r12_) ∧ r_ = r12_
set_option maxHeartbeats 4000000 in
set_option maxRecDepth 100000 in
theorem c_S_indexOf2_4 {cls : List rf} (l : Launch) (G : va_G) (cy : Nat → ClassId) (ad : rf → Nat) (d : Nat) (v : Int32) (u : Int32) (Mz : mM) : WP cls l G cy ad yS_indexOf2 cS_indexOf2 3 (some .int) (d + 2) 0 [(0, vR (91, 4, 0)), (1, vI v), (2, vI u)] [] Mz (fun r M' => Mz = M' ∧ (True) ∧ SP_S_indexOf2_4 v u Mz r) := by
  refine w_aload_n dS_indexOf2_0 rfl 0 rfl ?_
  refine w_callStr (k := 4) rfl (as := []) (rest := []) (c_S_isLatin1_4 l G cy ad (d + 1) Mz) kV_S_isLatin1 (by decide +kernel) rfl (Nat.le_of_ble_eq_true rfl) m_748 rfl rfl (by decide) (Nat.le_of_ble_eq_true rfl) dS_indexOf2_1 (fun r1_ M2_ q3_ => ?_)
  obtain ⟨rfl, h4_, hs5_⟩ := q3_
  subst h4_
  refine w_if_eq (tgt := 23) dS_indexOf2_4 (by decide) li_1 (fun h9 => (absurd h9 (by decide))) (fun h6_ => ?_)
  refine w_aload_n dS_indexOf2_7 rfl 0 rfl ?_
  refine w_getSv (k := 4) rfl m_1872 dS_indexOf2_8 ?_
  refine w_iload_n dS_indexOf2_11 rfl 1 rfl ?_
  refine w_iload_n dS_indexOf2_12 rfl 2 rfl ?_
  refine w_aload_n dS_indexOf2_13 rfl 0 rfl ?_
  refine w_callStr (k := 4) rfl (as := []) (rest := [vI u, vI v, vR (90, 14, 0)]) (c_S_length_4 l G cy ad d Mz) kV_S_length (by decide +kernel) rfl (Nat.le_of_ble_eq_true rfl) m_754 rfl rfl (by decide) (Nat.le_of_ble_eq_true rfl) dS_indexOf2_14 (fun r7_ M8_ q9_ => ?_)
  obtain ⟨rfl, h10_, hs11_⟩ := q9_
  subst h10_
  refine w_callS (as := [vR (90, 14, 0), vI v, vI u, vI 4]) (rest := []) (c_SL_indexOf_4 l G cy ad d v u 4 Mz) kS_SL_indexOf (by decide +kernel) (Nat.le_of_ble_eq_true rfl) m_762 rfl rfl (by decide) (Nat.le_of_ble_eq_true rfl) dS_indexOf2_17 (fun r12_ M13_ q14_ => ?_)
  obtain ⟨rfl, h15_, hs16_⟩ := q14_
  refine w_goto (tgt := 36) dS_indexOf2_20 (by decide) ?_
  exact w_iret rfl dS_indexOf2_36 ⟨rfl, trivial, ⟨hs5_, hs11_, r12_, hs16_, rfl⟩⟩
def SP_S_indexOf_4 (v : Int32) (Mz : mM) (r_ : Int32) : Prop := ∃ r1_ : Int32, (SP_S_indexOf2_4 v 0 Mz r1_) ∧ r_ = r1_
set_option maxHeartbeats 4000000 in
set_option maxRecDepth 100000 in
theorem c_S_indexOf_4 {cls : List rf} (l : Launch) (G : va_G) (cy : Nat → ClassId) (ad : rf → Nat) (d : Nat) (v : Int32) (Mz : mM) : WP cls l G cy ad yS_indexOf cS_indexOf 2 (some .int) (d + 3) 0 [(0, vR (91, 4, 0)), (1, vI v)] [] Mz (fun r M' => Mz = M' ∧ (True) ∧ SP_S_indexOf_4 v Mz r) := by
  refine w_aload_n dS_indexOf_0 rfl 0 rfl ?_
  refine w_iload_n dS_indexOf_1 rfl 1 rfl ?_
  refine w_iconst (v := 0) dS_indexOf_2 (by decide) ?_
  refine w_callStr (k := 4) rfl (as := [vI v, vI 0]) (rest := []) (c_S_indexOf2_4 l G cy ad d v 0 Mz) kV_S_indexOf2 (by decide +kernel) rfl (Nat.le_of_ble_eq_true rfl) m_744 rfl rfl (by decide) (Nat.le_of_ble_eq_true rfl) dS_indexOf_3 (fun r1_ M2_ q3_ => ?_)
  obtain ⟨rfl, h4_, hs5_⟩ := q3_
  exact w_iret rfl dS_indexOf_6 ⟨rfl, trivial, ⟨r1_, hs5_, rfl⟩⟩
def SP_S_coder_5 (Mz : mM) (r_ : Int32) : Prop := r_ = 0
set_option maxHeartbeats 4000000 in
set_option maxRecDepth 100000 in
theorem c_S_coder_5 {cls : List rf} (l : Launch) (G : va_G) (cy : Nat → ClassId) (ad : rf → Nat) (d : Nat) (Mz : mM) : WP cls l G cy ad yS_coder cS_coder 1 (some .byte) d 0 [(0, vR (91, 5, 0))] [] Mz (fun r M' => Mz = M' ∧ (r = 0) ∧ SP_S_coder_5 Mz r) := by
  refine w_getsC m_752 dS_coder_0 ?_
  refine w_if_eq (tgt := 13) dS_coder_3 (by decide) li_1 (fun h9 => (absurd h9 (by decide))) (fun h1_ => ?_)
  refine w_aload_n dS_coder_6 rfl 0 rfl ?_
  refine w_getSc (k := 5) rfl m_1871 dS_coder_7 ?_
  refine w_goto (tgt := 14) dS_coder_10 (by decide) ?_
  exact w_bret (ty := .byte) rfl dS_coder_14 rfl ⟨rfl, rfl, rfl⟩
def SP_S_isLatin1_5 (Mz : mM) (r_ : Int32) : Prop := r_ = 1
set_option maxHeartbeats 4000000 in
set_option maxRecDepth 100000 in
theorem c_S_isLatin1_5 {cls : List rf} (l : Launch) (G : va_G) (cy : Nat → ClassId) (ad : rf → Nat) (d : Nat) (Mz : mM) : WP cls l G cy ad yS_isLatin1 cS_isLatin1 1 (some .boolean) d 0 [(0, vR (91, 5, 0))] [] Mz (fun r M' => Mz = M' ∧ (r = 1) ∧ SP_S_isLatin1_5 Mz r) := by
  refine w_getsC m_752 dS_isLatin1_0 ?_
  refine w_if_eq (tgt := 17) dS_isLatin1_3 (by decide) li_1 (fun h9 => (absurd h9 (by decide))) (fun h1_ => ?_)
  refine w_aload_n dS_isLatin1_6 rfl 0 rfl ?_
  refine w_getSc (k := 5) rfl m_1871 dS_isLatin1_7 ?_
  refine w_if_ne (tgt := 17) dS_isLatin1_10 (by decide) li_0 (fun h9 => (absurd h9 (by decide))) (fun h2_ => ?_)
  refine w_iconst (v := 1) dS_isLatin1_13 (by decide) ?_
  refine w_goto (tgt := 18) dS_isLatin1_14 (by decide) ?_
  exact w_zret rfl dS_isLatin1_18 ⟨by decide, by decide⟩ ⟨rfl, rfl, rfl⟩
def SP_S_length_5 (Mz : mM) (r_ : Int32) : Prop := (SP_S_coder_5 Mz (0 : Int32)) ∧ r_ = 3
set_option maxHeartbeats 4000000 in
set_option maxRecDepth 100000 in
theorem c_S_length_5 {cls : List rf} (l : Launch) (G : va_G) (cy : Nat → ClassId) (ad : rf → Nat) (d : Nat) (Mz : mM) : WP cls l G cy ad yS_length cS_length 1 (some .int) (d + 1) 0 [(0, vR (91, 5, 0))] [] Mz (fun r M' => Mz = M' ∧ (r = 3) ∧ SP_S_length_5 Mz r) := by
  refine w_aload_n dS_length_0 rfl 0 rfl ?_
  refine w_getSv (k := 5) rfl m_1872 dS_length_1 ?_
  refine w_alenS (k := 5) (v := 3) rfl dS_length_4 rfl ?_
  refine w_aload_n dS_length_5 rfl 0 rfl ?_
  refine w_callStr (k := 5) rfl (as := []) (rest := [vI 3]) (c_S_coder_5 l G cy ad d Mz) kV_S_coder (by decide +kernel) rfl (Nat.le_of_ble_eq_true rfl) m_758 rfl rfl (by decide) (Nat.le_of_ble_eq_true rfl) dS_length_6 (fun r1_ M2_ q3_ => ?_)
  obtain ⟨rfl, h4_, hs5_⟩ := q3_
  subst h4_
  refine w_ishr dS_length_9 (fun z6_ h7_ => ?_)
  obtain rfl : z6_ = 3 := h7_.trans (by decide)
  exact w_iret rfl dS_length_10 ⟨rfl, rfl, ⟨hs5_, rfl⟩⟩
def SP_SL_charAt_5 (v : Int32) (Mz : mM) (r_ : Int32) : Prop := ∃ z1_j : Nat, ((z1_j : Int) = v.toInt) ∧ ∃ z1_ : Int32, (z1_ = ([115, 110, 116] : List Int32).getD z1_j 0) ∧ ∃ z2_ : Int32, (z2_ = z1_ &&& (255 : Int32)) ∧ (0 ≤ z2_.toInt ∧ z2_.toInt < ((2 ^ 8 : Nat) : Int)) ∧ ∃ z5_ : Int32, (z5_ = (z2_.toUInt32 % 65536).toInt32) ∧ (narrow .char (.int z5_) = .int z5_) ∧ r_ = z5_
theorem lf_c_SL_charAt_5_0  (v : Int32) (hv : 0 ≤ v.toInt ∧ v.toInt < 3) : 0 ≤ v.toInt ∧ v.toInt < 3 := by have r_v := rngI v; omega
theorem lf_c_SL_charAt_5_1  (v : Int32) (hv : 0 ≤ v.toInt ∧ v.toInt < 3) : 0 ≤ v.toInt ∧ v.toInt < 3 := by have r_v := rngI v; omega
set_option maxHeartbeats 4000000 in
set_option maxRecDepth 100000 in
theorem c_SL_charAt_5 {cls : List rf} (l : Launch) (G : va_G) (cy : Nat → ClassId) (ad : rf → Nat) (d : Nat) (v : Int32) (Mz : mM) (hv : 0 ≤ v.toInt ∧ v.toInt < 3) : WP cls l G cy ad ySL_charAt cSL_charAt 2 (some .char) (d + 3) 0 [(0, vR (90, 15, 0)), (1, vI v)] [] Mz (fun r M' => Mz = M' ∧ (narrow .char (.int r) = .int r) ∧ SP_SL_charAt_5 v Mz r) := by
  refine w_iload_n dSL_charAt_0 rfl 1 rfl ?_
  refine w_aload_n dSL_charAt_1 rfl 0 rfl ?_
  refine w_alenS (k := 5) (v := 3) rfl dSL_charAt_2 rfl ?_
  refine w_checkIndex m_1607 (lf_c_SL_charAt_5_0 v hv) li_3 (Nat.le_of_ble_eq_true rfl) (by omega) dSL_charAt_3 ?_
  refine w_aload_n dSL_charAt_6 rfl 0 rfl ?_
  refine w_iload_n dSL_charAt_7 rfl 1 rfl ?_
  refine w_baldS (k := 5) rfl (rfl : v.toInt = v.toInt) (lf_c_SL_charAt_5_1 v hv) dSL_charAt_8 (fun z1_j z1_k z1_ z1_h => ?_)
  refine w_sipush (v := 255) dSL_charAt_9 (by decide) ?_
  refine w_iand dSL_charAt_12 (fun z2_ h4_ => ?_)
  have h3_ : 0 ≤ z2_.toInt ∧ z2_.toInt < ((2 ^ 8 : Nat) : Int) := by rw [h4_]; exact andI _ 8 (by decide) (by decide)
  refine w_i2c dSL_charAt_13 (fun z5_ h6_ => ?_)
  have h7_ : narrow .char (.int z5_) = .int z5_ := by rw [h6_]; exact nar_c _
  exact w_bret (ty := .char) rfl dSL_charAt_14 h7_ ⟨rfl, h7_, ⟨z1_j, z1_k, z1_, z1_h, z2_, h4_, h3_, z5_, h6_, h7_, rfl⟩⟩
def SP_S_charAt_5 (v : Int32) (Mz : mM) (r_ : Int32) : Prop := (SP_S_isLatin1_5 Mz (1 : Int32)) ∧ ∃ r7_ : Int32, (SP_SL_charAt_5 v Mz r7_) ∧ (narrow .char (.int r7_) = .int r7_) ∧ r_ = r7_
set_option maxHeartbeats 4000000 in
set_option maxRecDepth 100000 in
theorem c_S_charAt_5 {cls : List rf} (l : Launch) (G : va_G) (cy : Nat → ClassId) (ad : rf → Nat) (d : Nat) (v : Int32) (Mz : mM) (hv : 0 ≤ v.toInt ∧ v.toInt < 3) : WP cls l G cy ad yS_charAt cS_charAt 2 (some .char) (d + 4) 0 [(0, vR (91, 5, 0)), (1, vI v)] [] Mz (fun r M' => Mz = M' ∧ (narrow .char (.int r) = .int r) ∧ SP_S_charAt_5 v Mz r) := by
  refine w_aload_n dS_charAt_0 rfl 0 rfl ?_
  refine w_callStr (k := 5) rfl (as := []) (rest := []) (c_S_isLatin1_5 l G cy ad (d + 3) Mz) kV_S_isLatin1 (by decide +kernel) rfl (Nat.le_of_ble_eq_true rfl) m_748 rfl rfl (by decide) (Nat.le_of_ble_eq_true rfl) dS_charAt_1 (fun r1_ M2_ q3_ => ?_)
  obtain ⟨rfl, h4_, hs5_⟩ := q3_
  subst h4_
  refine w_if_eq (tgt := 16) dS_charAt_4 (by decide) li_1 (fun h9 => (absurd h9 (by decide))) (fun h6_ => ?_)
  refine w_aload_n dS_charAt_7 rfl 0 rfl ?_
  refine w_getSv (k := 5) rfl m_1872 dS_charAt_8 ?_
  refine w_iload_n dS_charAt_11 rfl 1 rfl ?_
  refine w_callS (as := [vR (90, 15, 0), vI v]) (rest := []) (c_SL_charAt_5 l G cy ad d v Mz hv) kS_SL_charAt (by decide +kernel) (Nat.le_of_ble_eq_true rfl) m_1604 rfl rfl (by decide) (Nat.le_of_ble_eq_true rfl) dS_charAt_12 (fun r7_ M8_ q9_ => ?_)
  obtain ⟨rfl, h10_, hs11_⟩ := q9_
  exact w_bret (ty := .char) rfl dS_charAt_15 h10_ ⟨rfl, h10_, ⟨hs5_, r7_, hs11_, h10_, rfl⟩⟩
def ST_SL_indexOfChar_5_7 (t : Int32) (z1_ : Int32) (v5_7 : Int32) (v5_7y : Int32) : Prop := (0 ≤ v5_7.toInt) ∧ (v5_7.toInt < t.toInt) ∧ ∃ z5_j : Nat, ((z5_j : Int) = v5_7.toInt) ∧ ∃ z5_ : Int32, (z5_ = ([115, 110, 116] : List Int32).getD z5_j 0) ∧ (¬ z5_.toInt = z1_.toInt) ∧ ∃ z7_ : Int32, (z7_.toInt = v5_7.toInt + 1) ∧ v5_7y = z7_
def SP_SL_indexOfChar_5 (v : Int32) (u : Int32) (t : Int32) (Mz : mM) (r_ : Int32) : Prop := ∃ z1_ : Int32, (z1_ = v.toInt8.toInt32) ∧ ∃ v5_7 : Int32, (0 ≤ v5_7.toInt) ∧ (RCH (fun x_ y_ => ST_SL_indexOfChar_5_7 t z1_ x_ y_) u v5_7) ∧ (((t.toInt ≤ v5_7.toInt) ∧ r_ = (-1)) ∨ ((v5_7.toInt < t.toInt) ∧ ∃ z5_j : Nat, ((z5_j : Int) = v5_7.toInt) ∧ ∃ z5_ : Int32, (z5_ = ([115, 110, 116] : List Int32).getD z5_j 0) ∧ (z5_.toInt = z1_.toInt) ∧ r_ = v5_7))
theorem lf_c_SL_indexOfChar_5_0  (t : Int32) (v5_7 : Int32) (ht : t.toInt ≤ 3) (hv0_7 : 0 ≤ v5_7.toInt) (h4_ : v5_7.toInt < t.toInt) : 0 ≤ v5_7.toInt ∧ v5_7.toInt < 3 := by have r_t := rngI t; have r_v5_7 := rngI v5_7; omega
theorem lf_c_SL_indexOfChar_5_1  (t : Int32) (v5_7 : Int32) (ht : t.toInt ≤ 3) (hv0_7 : 0 ≤ v5_7.toInt) (h4_ : v5_7.toInt < t.toInt) : -2147483648 ≤ v5_7.toInt + 1 ∧ v5_7.toInt + 1 < 2147483648 := by have r_t := rngI t; have r_v5_7 := rngI v5_7; omega
theorem lf_c_SL_indexOfChar_5_2  (t : Int32) (v5_7 : Int32) (z7_ : Int32) (ht : t.toInt ≤ 3) (hv0_7 : 0 ≤ v5_7.toInt) (h4_ : v5_7.toInt < t.toInt) (h8_ : z7_.toInt = v5_7.toInt + 1) : 0 ≤ z7_.toInt := by have r_t := rngI t; have r_v5_7 := rngI v5_7; have r_z7_ := rngI z7_; omega
theorem lf_c_SL_indexOfChar_5_3  (t : Int32) (v5_7 : Int32) (z7_ : Int32) (ht : t.toInt ≤ 3) (hv0_7 : 0 ≤ v5_7.toInt) (h4_ : v5_7.toInt < t.toInt) (h8_ : z7_.toInt = v5_7.toInt + 1) : (t.toInt - z7_.toInt).toNat < (t.toInt - v5_7.toInt).toNat := by have r_t := rngI t; have r_v5_7 := rngI v5_7; have r_z7_ := rngI z7_; omega
set_option maxHeartbeats 4000000 in
set_option maxRecDepth 100000 in
theorem c_SL_indexOfChar_5 {cls : List rf} (l : Launch) (G : va_G) (cy : Nat → ClassId) (ad : rf → Nat) (d : Nat) (v : Int32) (u : Int32) (t : Int32) (Mz : mM) (hu : 0 ≤ u.toInt) (ht : t.toInt ≤ 3) : WP cls l G cy ad ySL_indexOfChar cSL_indexOfChar 6 (some .int) d 0 [(0, vR (90, 15, 0)), (1, vI v), (2, vI u), (3, vI t)] [] Mz (fun r M' => Mz = M' ∧ (True) ∧ SP_SL_indexOfChar_5 v u t Mz r) := by
  refine w_iload_n dSL_indexOfChar_0 rfl 1 rfl ?_
  refine w_i2b dSL_indexOfChar_1 (fun z1_ h2_ => ?_)
  refine w_istore (ls' := [(4, vI z1_), (0, vR (90, 15, 0)), (1, vI v), (2, vI u), (3, vI t)]) dSL_indexOfChar_2 (by decide) rfl ?_
  refine w_iload_n dSL_indexOfChar_4 rfl 3 rfl ?_
  refine w_istore (ls' := [(5, vI u), (4, vI z1_), (0, vR (90, 15, 0)), (1, vI v), (2, vI u), (3, vI t)]) dSL_indexOfChar_5 (by decide) rfl ?_
  have lp3_ : ∀ (nn_7 : Nat) (v5_7 : Int32) (hv0_7 : 0 ≤ v5_7.toInt) (hL_7 : RCH (fun x_ y_ => ST_SL_indexOfChar_5_7 t z1_ x_ y_) u v5_7), (t.toInt - v5_7.toInt).toNat < nn_7 → WP cls l G cy ad ySL_indexOfChar cSL_indexOfChar 6 (some .int) d 7 [(5, vI v5_7), (4, vI z1_), (0, vR (90, 15, 0)), (1, vI v), (2, vI u), (3, vI t)] [] Mz (fun r M' => Mz = M' ∧ (True) ∧ SP_SL_indexOfChar_5 v u t Mz r) := by
    intro nn_7
    induction nn_7 with
    | zero => intro v5_7 hv0_7 hL_7 hm_7; exact absurd hm_7 (Nat.not_lt_zero _)
    | succ nn_7 ih_7 =>
      intro v5_7 hv0_7 hL_7 hm_7
      refine w_iload dSL_indexOfChar_7 0 rfl ?_
      refine w_iload_n dSL_indexOfChar_9 rfl 5 rfl ?_
      refine w_icmp_ge (tgt := 31) dSL_indexOfChar_10 (by decide) (rfl : v5_7.toInt = v5_7.toInt) (rfl : t.toInt = t.toInt) (fun h4_ => ?_) (fun h4_ => ?_)
      · refine w_iconst (v := (-1)) dSL_indexOfChar_31 (by decide) ?_
        exact w_iret rfl dSL_indexOfChar_32 ⟨rfl, trivial, ⟨z1_, h2_, v5_7, hv0_7, hL_7, (Or.inl ⟨h4_, rfl⟩)⟩⟩
      · refine w_aload_n dSL_indexOfChar_13 rfl 2 rfl ?_
        refine w_iload dSL_indexOfChar_14 0 rfl ?_
        refine w_baldS (k := 5) rfl (rfl : v5_7.toInt = v5_7.toInt) (lf_c_SL_indexOfChar_5_0 t v5_7 ht hv0_7 h4_) dSL_indexOfChar_16 (fun z5_j z5_k z5_ z5_h => ?_)
        refine w_iload dSL_indexOfChar_17 1 rfl ?_
        refine w_icmp_ne (tgt := 25) dSL_indexOfChar_19 (by decide) (rfl : z5_.toInt = z5_.toInt) (rfl : z1_.toInt = z1_.toInt) (fun h6_ => ?_) (fun h6_ => ?_)
        · refine w_iincB (j := 0) (f := fun z7_ => [(5, vI z7_), (4, vI z1_), (0, vR (90, 15, 0)), (1, vI v), (2, vI u), (3, vI t)]) dSL_indexOfChar_25 rfl (by decide) (fun _ => rfl) (rfl : v5_7.toInt = v5_7.toInt) li_1 (lf_c_SL_indexOfChar_5_1 t v5_7 ht hv0_7 h4_) (fun z7_ h8_ => ?_)
          refine w_goto (tgt := 7) dSL_indexOfChar_28 (by decide) ?_
          refine w_loc (ls' := [(5, vI z7_), (4, vI z1_), (0, vR (90, 15, 0)), (1, vI v), (2, vI u), (3, vI t)]) [0, 1, 2, 3, 4, 5] rfl ?_
          exact ih_7 z7_ (lf_c_SL_indexOfChar_5_2 t v5_7 z7_ ht hv0_7 h4_ h8_) (RCH.tail hL_7 ⟨hv0_7, h4_, z5_j, z5_k, z5_, z5_h, h6_, z7_, h8_, rfl⟩) (Nat.lt_of_lt_of_le (lf_c_SL_indexOfChar_5_3 t v5_7 z7_ ht hv0_7 h4_ h8_) (Nat.le_of_lt_succ hm_7))
        · refine w_iload dSL_indexOfChar_22 0 rfl ?_
          exact w_iret rfl dSL_indexOfChar_24 ⟨rfl, trivial, ⟨z1_, h2_, v5_7, hv0_7, hL_7, (Or.inr ⟨h4_, z5_j, z5_k, z5_, z5_h, h6_, rfl⟩)⟩⟩
  exact lp3_ _ u hu RCH.refl (Nat.lt_succ_self _)
def SP_SL_indexOf_5 (v : Int32) (u : Int32) (t : Int32) (Mz : mM) (r_ : Int32) : Prop := ∃ r1_ : Int32, (SP_SL_canEncode_0 v Mz r1_) ∧ ((0 ≤ r1_.toInt ∧ r1_.toInt ≤ 1)) ∧ (((¬ r1_.toInt = 0) ∧ ∃ z7_ : Int32, ((z7_.toInt = u.toInt ∧ 0 ≤ u.toInt) ∨ (z7_.toInt = 0 ∧ u.toInt ≤ 0)) ∧ ∃ z9_ : Int32, ((z9_.toInt = t.toInt ∧ t.toInt ≤ 3) ∨ (z9_.toInt = 3 ∧ 3 ≤ t.toInt)) ∧ (((z7_.toInt < z9_.toInt) ∧ ∃ r12_ : Int32, (SP_SL_indexOfChar_5 v z7_ z9_ Mz r12_) ∧ r_ = r12_) ∨ ((z9_.toInt ≤ z7_.toInt) ∧ r_ = (-1)))) ∨ ((r1_.toInt = 0) ∧ r_ = (-1)))
theorem lf_c_SL_indexOf_5_0  (u : Int32) (t : Int32) (z7_ : Int32) (z9_ : Int32) (h8_ : (z7_.toInt = u.toInt ∧ 0 ≤ u.toInt) ∨ (z7_.toInt = 0 ∧ u.toInt ≤ 0)) (h10_ : (z9_.toInt = t.toInt ∧ t.toInt ≤ 3) ∨ (z9_.toInt = 3 ∧ 3 ≤ t.toInt)) (h11_ : z7_.toInt < z9_.toInt) : 0 ≤ z7_.toInt := by have r_u := rngI u; have r_t := rngI t; have r_z7_ := rngI z7_; have r_z9_ := rngI z9_; omega
theorem lf_c_SL_indexOf_5_1  (u : Int32) (t : Int32) (z7_ : Int32) (z9_ : Int32) (h8_ : (z7_.toInt = u.toInt ∧ 0 ≤ u.toInt) ∨ (z7_.toInt = 0 ∧ u.toInt ≤ 0)) (h10_ : (z9_.toInt = t.toInt ∧ t.toInt ≤ 3) ∨ (z9_.toInt = 3 ∧ 3 ≤ t.toInt)) (h11_ : z7_.toInt < z9_.toInt) : z9_.toInt ≤ 3 := by have r_u := rngI u; have r_t := rngI t; have r_z7_ := rngI z7_; have r_z9_ := rngI z9_; omega
set_option maxHeartbeats 4000000 in
set_option maxRecDepth 100000 in
theorem c_SL_indexOf_5 {cls : List rf} (l : Launch) (G : va_G) (cy : Nat → ClassId) (ad : rf → Nat) (d : Nat) (v : Int32) (u : Int32) (t : Int32) (Mz : mM) : WP cls l G cy ad ySL_indexOf cSL_indexOf 4 (some .int) (d + 1) 0 [(0, vR (90, 15, 0)), (1, vI v), (2, vI u), (3, vI t)] [] Mz (fun r M' => Mz = M' ∧ (True) ∧ SP_SL_indexOf_5 v u t Mz r) := by
  refine w_iload_n dSL_indexOf_0 rfl 1 rfl ?_
  refine w_callS (as := [vI v]) (rest := []) (c_SL_canEncode_0 l G cy ad d v Mz) kS_SL_canEncode (by decide +kernel) (Nat.le_of_ble_eq_true rfl) m_765 rfl rfl (by decide) (Nat.le_of_ble_eq_true rfl) dSL_indexOf_1 (fun r1_ M2_ q3_ => ?_)
  obtain ⟨rfl, h4_, hs5_⟩ := q3_
  refine w_if_ne (tgt := 9) dSL_indexOf_4 (by decide) (rfl : r1_.toInt = r1_.toInt) (fun h6_ => ?_) (fun h6_ => ?_)
  · refine w_iload_n dSL_indexOf_9 rfl 2 rfl ?_
    refine w_iconst (v := 0) dSL_indexOf_10 (by decide) ?_
    refine w_max m_768 m_206 m_86 m_207 (rfl : u.toInt = u.toInt) li_0 (Nat.le_of_ble_eq_true rfl) (by omega) dSL_indexOf_11 (fun z7_ h8_ => ?_)
    refine w_istore_n (ls' := [(2, vI z7_), (0, vR (90, 15, 0)), (1, vI v), (3, vI t)]) dSL_indexOf_14 rfl (by decide) rfl ?_
    refine w_iload_n dSL_indexOf_15 rfl 3 rfl ?_
    refine w_aload_n dSL_indexOf_16 rfl 1 rfl ?_
    refine w_alenS (k := 5) (v := 3) rfl dSL_indexOf_17 rfl ?_
    refine w_min m_769 m_770 m_86 m_771 (rfl : t.toInt = t.toInt) li_3 (Nat.le_of_ble_eq_true rfl) (by omega) dSL_indexOf_18 (fun z9_ h10_ => ?_)
    refine w_istore_n (ls' := [(3, vI z9_), (2, vI z7_), (0, vR (90, 15, 0)), (1, vI v)]) dSL_indexOf_21 rfl (by decide) rfl ?_
    refine w_iload_n dSL_indexOf_22 rfl 1 rfl ?_
    refine w_iload_n dSL_indexOf_23 rfl 0 rfl ?_
    refine w_icmp_lt (tgt := 29) dSL_indexOf_24 (by decide) (rfl : z7_.toInt = z7_.toInt) (rfl : z9_.toInt = z9_.toInt) (fun h11_ => ?_) (fun h11_ => ?_)
    · refine w_aload_n dSL_indexOf_29 rfl 2 rfl ?_
      refine w_iload_n dSL_indexOf_30 rfl 3 rfl ?_
      refine w_iload_n dSL_indexOf_31 rfl 1 rfl ?_
      refine w_iload_n dSL_indexOf_32 rfl 0 rfl ?_
      refine w_callS (as := [vR (90, 15, 0), vI v, vI z7_, vI z9_]) (rest := []) (c_SL_indexOfChar_5 l G cy ad d v z7_ z9_ Mz (lf_c_SL_indexOf_5_0 u t z7_ z9_ h8_ h10_ h11_) (lf_c_SL_indexOf_5_1 u t z7_ z9_ h8_ h10_ h11_)) kS_SL_indexOfChar (by decide +kernel) (Nat.le_of_ble_eq_true rfl) m_772 rfl rfl (by decide) (Nat.le_of_ble_eq_true rfl) dSL_indexOf_33 (fun r12_ M13_ q14_ => ?_)
      obtain ⟨rfl, h15_, hs16_⟩ := q14_
      exact w_iret rfl dSL_indexOf_36 ⟨rfl, trivial, ⟨r1_, hs5_, h4_, (Or.inl ⟨h6_, z7_, h8_, z9_, h10_, (Or.inl ⟨h11_, r12_, hs16_, rfl⟩)⟩)⟩⟩
    · refine w_iconst (v := (-1)) dSL_indexOf_27 (by decide) ?_
      exact w_iret rfl dSL_indexOf_28 ⟨rfl, trivial, ⟨r1_, hs5_, h4_, (Or.inl ⟨h6_, z7_, h8_, z9_, h10_, (Or.inr ⟨h11_, rfl⟩)⟩)⟩⟩
  · refine w_iconst (v := (-1)) dSL_indexOf_7 (by decide) ?_
    exact w_iret rfl dSL_indexOf_8 ⟨rfl, trivial, ⟨r1_, hs5_, h4_, (Or.inr ⟨h6_, rfl⟩)⟩⟩
def SP_S_indexOf2_5 (v : Int32) (u : Int32) (Mz : mM) (r_ : Int32) : Prop := (SP_S_isLatin1_5 Mz (1 : Int32)) ∧ (SP_S_length_5 Mz (3 : Int32)) ∧ ∃ r12_ : Int32, (SP_SL_indexOf_5 v u 3 Mz r12_) ∧ r_ = r12_
set_option maxHeartbeats 4000000 in
set_option maxRecDepth 100000 in
theorem c_S_indexOf2_5 {cls : List rf} (l : Launch) (G : va_G) (cy : Nat → ClassId) (ad : rf → Nat) (d : Nat) (v : Int32) (u : Int32) (Mz : mM) : WP cls l G cy ad yS_indexOf2 cS_indexOf2 3 (some .int) (d + 2) 0 [(0, vR (91, 5, 0)), (1, vI v), (2, vI u)] [] Mz (fun r M' => Mz = M' ∧ (True) ∧ SP_S_indexOf2_5 v u Mz r) := by
  refine w_aload_n dS_indexOf2_0 rfl 0 rfl ?_
  refine w_callStr (k := 5) rfl (as := []) (rest := []) (c_S_isLatin1_5 l G cy ad (d + 1) Mz) kV_S_isLatin1 (by decide +kernel) rfl (Nat.le_of_ble_eq_true rfl) m_748 rfl rfl (by decide) (Nat.le_of_ble_eq_true rfl) dS_indexOf2_1 (fun r1_ M2_ q3_ => ?_)
  obtain ⟨rfl, h4_, hs5_⟩ := q3_
  subst h4_
  refine w_if_eq (tgt := 23) dS_indexOf2_4 (by decide) li_1 (fun h9 => (absurd h9 (by decide))) (fun h6_ => ?_)
  refine w_aload_n dS_indexOf2_7 rfl 0 rfl ?_
  refine w_getSv (k := 5) rfl m_1872 dS_indexOf2_8 ?_
  refine w_iload_n dS_indexOf2_11 rfl 1 rfl ?_
  refine w_iload_n dS_indexOf2_12 rfl 2 rfl ?_
  refine w_aload_n dS_indexOf2_13 rfl 0 rfl ?_
  refine w_callStr (k := 5) rfl (as := []) (rest := [vI u, vI v, vR (90, 15, 0)]) (c_S_length_5 l G cy ad d Mz) kV_S_length (by decide +kernel) rfl (Nat.le_of_ble_eq_true rfl) m_754 rfl rfl (by decide) (Nat.le_of_ble_eq_true rfl) dS_indexOf2_14 (fun r7_ M8_ q9_ => ?_)
  obtain ⟨rfl, h10_, hs11_⟩ := q9_
  subst h10_
  refine w_callS (as := [vR (90, 15, 0), vI v, vI u, vI 3]) (rest := []) (c_SL_indexOf_5 l G cy ad d v u 3 Mz) kS_SL_indexOf (by decide +kernel) (Nat.le_of_ble_eq_true rfl) m_762 rfl rfl (by decide) (Nat.le_of_ble_eq_true rfl) dS_indexOf2_17 (fun r12_ M13_ q14_ => ?_)
  obtain ⟨rfl, h15_, hs16_⟩ := q14_
  refine w_goto (tgt := 36) dS_indexOf2_20 (by decide) ?_
  exact w_iret rfl dS_indexOf2_36 ⟨rfl, trivial, ⟨hs5_, hs11_, r12_, hs16_, rfl⟩⟩
def SP_S_indexOf_5 (v : Int32) (Mz : mM) (r_ : Int32) : Prop := ∃ r1_ : Int32, (SP_S_indexOf2_5 v 0 Mz r1_) ∧ r_ = r1_
set_option maxHeartbeats 4000000 in
set_option maxRecDepth 100000 in
theorem c_S_indexOf_5 {cls : List rf} (l : Launch) (G : va_G) (cy : Nat → ClassId) (ad : rf → Nat) (d : Nat) (v : Int32) (Mz : mM) : WP cls l G cy ad yS_indexOf cS_indexOf 2 (some .int) (d + 3) 0 [(0, vR (91, 5, 0)), (1, vI v)] [] Mz (fun r M' => Mz = M' ∧ (True) ∧ SP_S_indexOf_5 v Mz r) := by
  refine w_aload_n dS_indexOf_0 rfl 0 rfl ?_
  refine w_iload_n dS_indexOf_1 rfl 1 rfl ?_
  refine w_iconst (v := 0) dS_indexOf_2 (by decide) ?_
  refine w_callStr (k := 5) rfl (as := [vI v, vI 0]) (rest := []) (c_S_indexOf2_5 l G cy ad d v 0 Mz) kV_S_indexOf2 (by decide +kernel) rfl (Nat.le_of_ble_eq_true rfl) m_744 rfl rfl (by decide) (Nat.le_of_ble_eq_true rfl) dS_indexOf_3 (fun r1_ M2_ q3_ => ?_)
  obtain ⟨rfl, h4_, hs5_⟩ := q3_
  exact w_iret rfl dS_indexOf_6 ⟨rfl, trivial, ⟨r1_, hs5_, rfl⟩⟩
def SP_S_coder_6 (Mz : mM) (r_ : Int32) : Prop := r_ = 0
set_option maxHeartbeats 4000000 in
set_option maxRecDepth 100000 in
theorem c_S_coder_6 {cls : List rf} (l : Launch) (G : va_G) (cy : Nat → ClassId) (ad : rf → Nat) (d : Nat) (Mz : mM) : WP cls l G cy ad yS_coder cS_coder 1 (some .byte) d 0 [(0, vR (91, 6, 0))] [] Mz (fun r M' => Mz = M' ∧ (r = 0) ∧ SP_S_coder_6 Mz r) := by
  refine w_getsC m_752 dS_coder_0 ?_
  refine w_if_eq (tgt := 13) dS_coder_3 (by decide) li_1 (fun h9 => (absurd h9 (by decide))) (fun h1_ => ?_)
  refine w_aload_n dS_coder_6 rfl 0 rfl ?_
  refine w_getSc (k := 6) rfl m_1871 dS_coder_7 ?_
  refine w_goto (tgt := 14) dS_coder_10 (by decide) ?_
  exact w_bret (ty := .byte) rfl dS_coder_14 rfl ⟨rfl, rfl, rfl⟩
def SP_S_isLatin1_6 (Mz : mM) (r_ : Int32) : Prop := r_ = 1
set_option maxHeartbeats 4000000 in
set_option maxRecDepth 100000 in
theorem c_S_isLatin1_6 {cls : List rf} (l : Launch) (G : va_G) (cy : Nat → ClassId) (ad : rf → Nat) (d : Nat) (Mz : mM) : WP cls l G cy ad yS_isLatin1 cS_isLatin1 1 (some .boolean) d 0 [(0, vR (91, 6, 0))] [] Mz (fun r M' => Mz = M' ∧ (r = 1) ∧ SP_S_isLatin1_6 Mz r) := by
  refine w_getsC m_752 dS_isLatin1_0 ?_
  refine w_if_eq (tgt := 17) dS_isLatin1_3 (by decide) li_1 (fun h9 => (absurd h9 (by decide))) (fun h1_ => ?_)
  refine w_aload_n dS_isLatin1_6 rfl 0 rfl ?_
  refine w_getSc (k := 6) rfl m_1871 dS_isLatin1_7 ?_
  refine w_if_ne (tgt := 17) dS_isLatin1_10 (by decide) li_0 (fun h9 => (absurd h9 (by decide))) (fun h2_ => ?_)
  refine w_iconst (v := 1) dS_isLatin1_13 (by decide) ?_
  refine w_goto (tgt := 18) dS_isLatin1_14 (by decide) ?_
  exact w_zret rfl dS_isLatin1_18 ⟨by decide, by decide⟩ ⟨rfl, rfl, rfl⟩
def SP_S_length_6 (Mz : mM) (r_ : Int32) : Prop := (SP_S_coder_6 Mz (0 : Int32)) ∧ r_ = 5
set_option maxHeartbeats 4000000 in
set_option maxRecDepth 100000 in
theorem c_S_length_6 {cls : List rf} (l : Launch) (G : va_G) (cy : Nat → ClassId) (ad : rf → Nat) (d : Nat) (Mz : mM) : WP cls l G cy ad yS_length cS_length 1 (some .int) (d + 1) 0 [(0, vR (91, 6, 0))] [] Mz (fun r M' => Mz = M' ∧ (r = 5) ∧ SP_S_length_6 Mz r) := by
  refine w_aload_n dS_length_0 rfl 0 rfl ?_
  refine w_getSv (k := 6) rfl m_1872 dS_length_1 ?_
  refine w_alenS (k := 6) (v := 5) rfl dS_length_4 rfl ?_
  refine w_aload_n dS_length_5 rfl 0 rfl ?_
  refine w_callStr (k := 6) rfl (as := []) (rest := [vI 5]) (c_S_coder_6 l G cy ad d Mz) kV_S_coder (by decide +kernel) rfl (Nat.le_of_ble_eq_true rfl) m_758 rfl rfl (by decide) (Nat.le_of_ble_eq_true rfl) dS_length_6 (fun r1_ M2_ q3_ => ?_)
  obtain ⟨rfl, h4_, hs5_⟩ := q3_
  subst h4_
  refine w_ishr dS_length_9 (fun z6_ h7_ => ?_)
  obtain rfl : z6_ = 5 := h7_.trans (by decide)
  exact w_iret rfl dS_length_10 ⟨rfl, rfl, ⟨hs5_, rfl⟩⟩
def SP_SL_charAt_6 (v : Int32) (Mz : mM) (r_ : Int32) : Prop := ∃ z1_j : Nat, ((z1_j : Int) = v.toInt) ∧ ∃ z1_ : Int32, (z1_ = ([102, 108, 114, 98, 116] : List Int32).getD z1_j 0) ∧ ∃ z2_ : Int32, (z2_ = z1_ &&& (255 : Int32)) ∧ (0 ≤ z2_.toInt ∧ z2_.toInt < ((2 ^ 8 : Nat) : Int)) ∧ ∃ z5_ : Int32, (z5_ = (z2_.toUInt32 % 65536).toInt32) ∧ (narrow .char (.int z5_) = .int z5_) ∧ r_ = z5_
theorem lf_c_SL_charAt_6_0  (v : Int32) (hv : 0 ≤ v.toInt ∧ v.toInt < 5) : 0 ≤ v.toInt ∧ v.toInt < 5 := by have r_v := rngI v; omega
theorem lf_c_SL_charAt_6_1  (v : Int32) (hv : 0 ≤ v.toInt ∧ v.toInt < 5) : 0 ≤ v.toInt ∧ v.toInt < 5 := by have r_v := rngI v; omega
set_option maxHeartbeats 4000000 in
set_option maxRecDepth 100000 in
theorem c_SL_charAt_6 {cls : List rf} (l : Launch) (G : va_G) (cy : Nat → ClassId) (ad : rf → Nat) (d : Nat) (v : Int32) (Mz : mM) (hv : 0 ≤ v.toInt ∧ v.toInt < 5) : WP cls l G cy ad ySL_charAt cSL_charAt 2 (some .char) (d + 3) 0 [(0, vR (90, 16, 0)), (1, vI v)] [] Mz (fun r M' => Mz = M' ∧ (narrow .char (.int r) = .int r) ∧ SP_SL_charAt_6 v Mz r) := by
  refine w_iload_n dSL_charAt_0 rfl 1 rfl ?_
  refine w_aload_n dSL_charAt_1 rfl 0 rfl ?_
  refine w_alenS (k := 6) (v := 5) rfl dSL_charAt_2 rfl ?_
  refine w_checkIndex m_1607 (lf_c_SL_charAt_6_0 v hv) li_5 (Nat.le_of_ble_eq_true rfl) (by omega) dSL_charAt_3 ?_
  refine w_aload_n dSL_charAt_6 rfl 0 rfl ?_
  refine w_iload_n dSL_charAt_7 rfl 1 rfl ?_
  refine w_baldS (k := 6) rfl (rfl : v.toInt = v.toInt) (lf_c_SL_charAt_6_1 v hv) dSL_charAt_8 (fun z1_j z1_k z1_ z1_h => ?_)
  refine w_sipush (v := 255) dSL_charAt_9 (by decide) ?_
  refine w_iand dSL_charAt_12 (fun z2_ h4_ => ?_)
  have h3_ : 0 ≤ z2_.toInt ∧ z2_.toInt < ((2 ^ 8 : Nat) : Int) := by rw [h4_]; exact andI _ 8 (by decide) (by decide)
  refine w_i2c dSL_charAt_13 (fun z5_ h6_ => ?_)
  have h7_ : narrow .char (.int z5_) = .int z5_ := by rw [h6_]; exact nar_c _
  exact w_bret (ty := .char) rfl dSL_charAt_14 h7_ ⟨rfl, h7_, ⟨z1_j, z1_k, z1_, z1_h, z2_, h4_, h3_, z5_, h6_, h7_, rfl⟩⟩
def SP_S_charAt_6 (v : Int32) (Mz : mM) (r_ : Int32) : Prop := (SP_S_isLatin1_6 Mz (1 : Int32)) ∧ ∃ r7_ : Int32, (SP_SL_charAt_6 v Mz r7_) ∧ (narrow .char (.int r7_) = .int r7_) ∧ r_ = r7_
set_option maxHeartbeats 4000000 in
set_option maxRecDepth 100000 in
theorem c_S_charAt_6 {cls : List rf} (l : Launch) (G : va_G) (cy : Nat → ClassId) (ad : rf → Nat) (d : Nat) (v : Int32) (Mz : mM) (hv : 0 ≤ v.toInt ∧ v.toInt < 5) : WP cls l G cy ad yS_charAt cS_charAt 2 (some .char) (d + 4) 0 [(0, vR (91, 6, 0)), (1, vI v)] [] Mz (fun r M' => Mz = M' ∧ (narrow .char (.int r) = .int r) ∧ SP_S_charAt_6 v Mz r) := by
  refine w_aload_n dS_charAt_0 rfl 0 rfl ?_
  refine w_callStr (k := 6) rfl (as := []) (rest := []) (c_S_isLatin1_6 l G cy ad (d + 3) Mz) kV_S_isLatin1 (by decide +kernel) rfl (Nat.le_of_ble_eq_true rfl) m_748 rfl rfl (by decide) (Nat.le_of_ble_eq_true rfl) dS_charAt_1 (fun r1_ M2_ q3_ => ?_)
  obtain ⟨rfl, h4_, hs5_⟩ := q3_
  subst h4_
  refine w_if_eq (tgt := 16) dS_charAt_4 (by decide) li_1 (fun h9 => (absurd h9 (by decide))) (fun h6_ => ?_)
  refine w_aload_n dS_charAt_7 rfl 0 rfl ?_
  refine w_getSv (k := 6) rfl m_1872 dS_charAt_8 ?_
  refine w_iload_n dS_charAt_11 rfl 1 rfl ?_
  refine w_callS (as := [vR (90, 16, 0), vI v]) (rest := []) (c_SL_charAt_6 l G cy ad d v Mz hv) kS_SL_charAt (by decide +kernel) (Nat.le_of_ble_eq_true rfl) m_1604 rfl rfl (by decide) (Nat.le_of_ble_eq_true rfl) dS_charAt_12 (fun r7_ M8_ q9_ => ?_)
  obtain ⟨rfl, h10_, hs11_⟩ := q9_
  exact w_bret (ty := .char) rfl dS_charAt_15 h10_ ⟨rfl, h10_, ⟨hs5_, r7_, hs11_, h10_, rfl⟩⟩
def ST_SL_indexOfChar_6_7 (t : Int32) (z1_ : Int32) (v5_7 : Int32) (v5_7y : Int32) : Prop := (0 ≤ v5_7.toInt) ∧ (v5_7.toInt < t.toInt) ∧ ∃ z5_j : Nat, ((z5_j : Int) = v5_7.toInt) ∧ ∃ z5_ : Int32, (z5_ = ([102, 108, 114, 98, 116] : List Int32).getD z5_j 0) ∧ (¬ z5_.toInt = z1_.toInt) ∧ ∃ z7_ : Int32, (z7_.toInt = v5_7.toInt + 1) ∧ v5_7y = z7_
def SP_SL_indexOfChar_6 (v : Int32) (u : Int32) (t : Int32) (Mz : mM) (r_ : Int32) : Prop := ∃ z1_ : Int32, (z1_ = v.toInt8.toInt32) ∧ ∃ v5_7 : Int32, (0 ≤ v5_7.toInt) ∧ (RCH (fun x_ y_ => ST_SL_indexOfChar_6_7 t z1_ x_ y_) u v5_7) ∧ (((t.toInt ≤ v5_7.toInt) ∧ r_ = (-1)) ∨ ((v5_7.toInt < t.toInt) ∧ ∃ z5_j : Nat, ((z5_j : Int) = v5_7.toInt) ∧ ∃ z5_ : Int32, (z5_ = ([102, 108, 114, 98, 116] : List Int32).getD z5_j 0) ∧ (z5_.toInt = z1_.toInt) ∧ r_ = v5_7))
theorem lf_c_SL_indexOfChar_6_0  (t : Int32) (v5_7 : Int32) (ht : t.toInt ≤ 5) (hv0_7 : 0 ≤ v5_7.toInt) (h4_ : v5_7.toInt < t.toInt) : 0 ≤ v5_7.toInt ∧ v5_7.toInt < 5 := by have r_t := rngI t; have r_v5_7 := rngI v5_7; omega
theorem lf_c_SL_indexOfChar_6_1  (t : Int32) (v5_7 : Int32) (ht : t.toInt ≤ 5) (hv0_7 : 0 ≤ v5_7.toInt) (h4_ : v5_7.toInt < t.toInt) : -2147483648 ≤ v5_7.toInt + 1 ∧ v5_7.toInt + 1 < 2147483648 := by have r_t := rngI t; have r_v5_7 := rngI v5_7; omega
theorem lf_c_SL_indexOfChar_6_2  (t : Int32) (v5_7 : Int32) (z7_ : Int32) (ht : t.toInt ≤ 5) (hv0_7 : 0 ≤ v5_7.toInt) (h4_ : v5_7.toInt < t.toInt) (h8_ : z7_.toInt = v5_7.toInt + 1) : 0 ≤ z7_.toInt := by have r_t := rngI t; have r_v5_7 := rngI v5_7; have r_z7_ := rngI z7_; omega
theorem lf_c_SL_indexOfChar_6_3  (t : Int32) (v5_7 : Int32) (z7_ : Int32) (ht : t.toInt ≤ 5) (hv0_7 : 0 ≤ v5_7.toInt) (h4_ : v5_7.toInt < t.toInt) (h8_ : z7_.toInt = v5_7.toInt + 1) : (t.toInt - z7_.toInt).toNat < (t.toInt - v5_7.toInt).toNat := by have r_t := rngI t; have r_v5_7 := rngI v5_7; have r_z7_ := rngI z7_; omega
set_option maxHeartbeats 4000000 in
set_option maxRecDepth 100000 in
theorem c_SL_indexOfChar_6 {cls : List rf} (l : Launch) (G : va_G) (cy : Nat → ClassId) (ad : rf → Nat) (d : Nat) (v : Int32) (u : Int32) (t : Int32) (Mz : mM) (hu : 0 ≤ u.toInt) (ht : t.toInt ≤ 5) : WP cls l G cy ad ySL_indexOfChar cSL_indexOfChar 6 (some .int) d 0 [(0, vR (90, 16, 0)), (1, vI v), (2, vI u), (3, vI t)] [] Mz (fun r M' => Mz = M' ∧ (True) ∧ SP_SL_indexOfChar_6 v u t Mz r) := by
  refine w_iload_n dSL_indexOfChar_0 rfl 1 rfl ?_
  refine w_i2b dSL_indexOfChar_1 (fun z1_ h2_ => ?_)
  refine w_istore (ls' := [(4, vI z1_), (0, vR (90, 16, 0)), (1, vI v), (2, vI u), (3, vI t)]) dSL_indexOfChar_2 (by decide) rfl ?_
  refine w_iload_n dSL_indexOfChar_4 rfl 3 rfl ?_
  refine w_istore (ls' := [(5, vI u), (4, vI z1_), (0, vR (90, 16, 0)), (1, vI v), (2, vI u), (3, vI t)]) dSL_indexOfChar_5 (by decide) rfl ?_
  have lp3_ : ∀ (nn_7 : Nat) (v5_7 : Int32) (hv0_7 : 0 ≤ v5_7.toInt) (hL_7 : RCH (fun x_ y_ => ST_SL_indexOfChar_6_7 t z1_ x_ y_) u v5_7), (t.toInt - v5_7.toInt).toNat < nn_7 → WP cls l G cy ad ySL_indexOfChar cSL_indexOfChar 6 (some .int) d 7 [(5, vI v5_7), (4, vI z1_), (0, vR (90, 16, 0)), (1, vI v), (2, vI u), (3, vI t)] [] Mz (fun r M' => Mz = M' ∧ (True) ∧ SP_SL_indexOfChar_6 v u t Mz r) := by
    intro nn_7
    induction nn_7 with
    | zero => intro v5_7 hv0_7 hL_7 hm_7; exact absurd hm_7 (Nat.not_lt_zero _)
    | succ nn_7 ih_7 =>
      intro v5_7 hv0_7 hL_7 hm_7
      refine w_iload dSL_indexOfChar_7 0 rfl ?_
      refine w_iload_n dSL_indexOfChar_9 rfl 5 rfl ?_
      refine w_icmp_ge (tgt := 31) dSL_indexOfChar_10 (by decide) (rfl : v5_7.toInt = v5_7.toInt) (rfl : t.toInt = t.toInt) (fun h4_ => ?_) (fun h4_ => ?_)
      · refine w_iconst (v := (-1)) dSL_indexOfChar_31 (by decide) ?_
        exact w_iret rfl dSL_indexOfChar_32 ⟨rfl, trivial, ⟨z1_, h2_, v5_7, hv0_7, hL_7, (Or.inl ⟨h4_, rfl⟩)⟩⟩
      · refine w_aload_n dSL_indexOfChar_13 rfl 2 rfl ?_
        refine w_iload dSL_indexOfChar_14 0 rfl ?_
        refine w_baldS (k := 6) rfl (rfl : v5_7.toInt = v5_7.toInt) (lf_c_SL_indexOfChar_6_0 t v5_7 ht hv0_7 h4_) dSL_indexOfChar_16 (fun z5_j z5_k z5_ z5_h => ?_)
        refine w_iload dSL_indexOfChar_17 1 rfl ?_
        refine w_icmp_ne (tgt := 25) dSL_indexOfChar_19 (by decide) (rfl : z5_.toInt = z5_.toInt) (rfl : z1_.toInt = z1_.toInt) (fun h6_ => ?_) (fun h6_ => ?_)
        · refine w_iincB (j := 0) (f := fun z7_ => [(5, vI z7_), (4, vI z1_), (0, vR (90, 16, 0)), (1, vI v), (2, vI u), (3, vI t)]) dSL_indexOfChar_25 rfl (by decide) (fun _ => rfl) (rfl : v5_7.toInt = v5_7.toInt) li_1 (lf_c_SL_indexOfChar_6_1 t v5_7 ht hv0_7 h4_) (fun z7_ h8_ => ?_)
          refine w_goto (tgt := 7) dSL_indexOfChar_28 (by decide) ?_
          refine w_loc (ls' := [(5, vI z7_), (4, vI z1_), (0, vR (90, 16, 0)), (1, vI v), (2, vI u), (3, vI t)]) [0, 1, 2, 3, 4, 5] rfl ?_
          exact ih_7 z7_ (lf_c_SL_indexOfChar_6_2 t v5_7 z7_ ht hv0_7 h4_ h8_) (RCH.tail hL_7 ⟨hv0_7, h4_, z5_j, z5_k, z5_, z5_h, h6_, z7_, h8_, rfl⟩) (Nat.lt_of_lt_of_le (lf_c_SL_indexOfChar_6_3 t v5_7 z7_ ht hv0_7 h4_ h8_) (Nat.le_of_lt_succ hm_7))
        · refine w_iload dSL_indexOfChar_22 0 rfl ?_
          exact w_iret rfl dSL_indexOfChar_24 ⟨rfl, trivial, ⟨z1_, h2_, v5_7, hv0_7, hL_7, (Or.inr ⟨h4_, z5_j, z5_k, z5_, z5_h, h6_, rfl⟩)⟩⟩
  exact lp3_ _ u hu RCH.refl (Nat.lt_succ_self _)
def SP_SL_indexOf_6 (v : Int32) (u : Int32) (t : Int32) (Mz : mM) (r_ : Int32) : Prop := ∃ r1_ : Int32, (SP_SL_canEncode_0 v Mz r1_) ∧ ((0 ≤ r1_.toInt ∧ r1_.toInt ≤ 1)) ∧ (((¬ r1_.toInt = 0) ∧ ∃ z7_ : Int32, ((z7_.toInt = u.toInt ∧ 0 ≤ u.toInt) ∨ (z7_.toInt = 0 ∧ u.toInt ≤ 0)) ∧ ∃ z9_ : Int32, ((z9_.toInt = t.toInt ∧ t.toInt ≤ 5) ∨ (z9_.toInt = 5 ∧ 5 ≤ t.toInt)) ∧ (((z7_.toInt < z9_.toInt) ∧ ∃ r12_ : Int32, (SP_SL_indexOfChar_6 v z7_ z9_ Mz r12_) ∧ r_ = r12_) ∨ ((z9_.toInt ≤ z7_.toInt) ∧ r_ = (-1)))) ∨ ((r1_.toInt = 0) ∧ r_ = (-1)))
theorem lf_c_SL_indexOf_6_0  (u : Int32) (t : Int32) (z7_ : Int32) (z9_ : Int32) (h8_ : (z7_.toInt = u.toInt ∧ 0 ≤ u.toInt) ∨ (z7_.toInt = 0 ∧ u.toInt ≤ 0)) (h10_ : (z9_.toInt = t.toInt ∧ t.toInt ≤ 5) ∨ (z9_.toInt = 5 ∧ 5 ≤ t.toInt)) (h11_ : z7_.toInt < z9_.toInt) : 0 ≤ z7_.toInt := by have r_u := rngI u; have r_t := rngI t; have r_z7_ := rngI z7_; have r_z9_ := rngI z9_; omega
theorem lf_c_SL_indexOf_6_1  (u : Int32) (t : Int32) (z7_ : Int32) (z9_ : Int32) (h8_ : (z7_.toInt = u.toInt ∧ 0 ≤ u.toInt) ∨ (z7_.toInt = 0 ∧ u.toInt ≤ 0)) (h10_ : (z9_.toInt = t.toInt ∧ t.toInt ≤ 5) ∨ (z9_.toInt = 5 ∧ 5 ≤ t.toInt)) (h11_ : z7_.toInt < z9_.toInt) : z9_.toInt ≤ 5 := by have r_u := rngI u; have r_t := rngI t; have r_z7_ := rngI z7_; have r_z9_ := rngI z9_; omega
set_option maxHeartbeats 4000000 in
set_option maxRecDepth 100000 in
theorem c_SL_indexOf_6 {cls : List rf} (l : Launch) (G : va_G) (cy : Nat → ClassId) (ad : rf → Nat) (d : Nat) (v : Int32) (u : Int32) (t : Int32) (Mz : mM) : WP cls l G cy ad ySL_indexOf cSL_indexOf 4 (some .int) (d + 1) 0 [(0, vR (90, 16, 0)), (1, vI v), (2, vI u), (3, vI t)] [] Mz (fun r M' => Mz = M' ∧ (True) ∧ SP_SL_indexOf_6 v u t Mz r) := by
  refine w_iload_n dSL_indexOf_0 rfl 1 rfl ?_
  refine w_callS (as := [vI v]) (rest := []) (c_SL_canEncode_0 l G cy ad d v Mz) kS_SL_canEncode (by decide +kernel) (Nat.le_of_ble_eq_true rfl) m_765 rfl rfl (by decide) (Nat.le_of_ble_eq_true rfl) dSL_indexOf_1 (fun r1_ M2_ q3_ => ?_)
  obtain ⟨rfl, h4_, hs5_⟩ := q3_
  refine w_if_ne (tgt := 9) dSL_indexOf_4 (by decide) (rfl : r1_.toInt = r1_.toInt) (fun h6_ => ?_) (fun h6_ => ?_)
  · refine w_iload_n dSL_indexOf_9 rfl 2 rfl ?_
    refine w_iconst (v := 0) dSL_indexOf_10 (by decide) ?_
    refine w_max m_768 m_206 m_86 m_207 (rfl : u.toInt = u.toInt) li_0 (Nat.le_of_ble_eq_true rfl) (by omega) dSL_indexOf_11 (fun z7_ h8_ => ?_)
    refine w_istore_n (ls' := [(2, vI z7_), (0, vR (90, 16, 0)), (1, vI v), (3, vI t)]) dSL_indexOf_14 rfl (by decide) rfl ?_
    refine w_iload_n dSL_indexOf_15 rfl 3 rfl ?_
    refine w_aload_n dSL_indexOf_16 rfl 1 rfl ?_
    refine w_alenS (k := 6) (v := 5) rfl dSL_indexOf_17 rfl ?_
    refine w_min m_769 m_770 m_86 m_771 (rfl : t.toInt = t.toInt) li_5 (Nat.le_of_ble_eq_true rfl) (by omega) dSL_indexOf_18 (fun z9_ h10_ => ?_)
    refine w_istore_n (ls' := [(3, vI z9_), (2, vI z7_), (0, vR (90, 16, 0)), (1, vI v)]) dSL_indexOf_21 rfl (by decide) rfl ?_
    refine w_iload_n dSL_indexOf_22 rfl 1 rfl ?_
    refine w_iload_n dSL_indexOf_23 rfl 0 rfl ?_
    refine w_icmp_lt (tgt := 29) dSL_indexOf_24 (by decide) (rfl : z7_.toInt = z7_.toInt) (rfl : z9_.toInt = z9_.toInt) (fun h11_ => ?_) (fun h11_ => ?_)
    · refine w_aload_n dSL_indexOf_29 rfl 2 rfl ?_
      refine w_iload_n dSL_indexOf_30 rfl 3 rfl ?_
      refine w_iload_n dSL_indexOf_31 rfl 1 rfl ?_
      refine w_iload_n dSL_indexOf_32 rfl 0 rfl ?_
      refine w_callS (as := [vR (90, 16, 0), vI v, vI z7_, vI z9_]) (rest := []) (c_SL_indexOfChar_6 l G cy ad d v z7_ z9_ Mz (lf_c_SL_indexOf_6_0 u t z7_ z9_ h8_ h10_ h11_) (lf_c_SL_indexOf_6_1 u t z7_ z9_ h8_ h10_ h11_)) kS_SL_indexOfChar (by decide +kernel) (Nat.le_of_ble_eq_true rfl) m_772 rfl rfl (by decide) (Nat.le_of_ble_eq_true rfl) dSL_indexOf_33 (fun r12_ M13_ q14_ => ?_)
      obtain ⟨rfl, h15_, hs16_⟩ := q14_
      exact w_iret rfl dSL_indexOf_36 ⟨rfl, trivial, ⟨r1_, hs5_, h4_, (Or.inl ⟨h6_, z7_, h8_, z9_, h10_, (Or.inl ⟨h11_, r12_, hs16_, rfl⟩)⟩)⟩⟩
    · refine w_iconst (v := (-1)) dSL_indexOf_27 (by decide) ?_
      exact w_iret rfl dSL_indexOf_28 ⟨rfl, trivial, ⟨r1_, hs5_, h4_, (Or.inl ⟨h6_, z7_, h8_, z9_, h10_, (Or.inr ⟨h11_, rfl⟩)⟩)⟩⟩
  · refine w_iconst (v := (-1)) dSL_indexOf_7 (by decide) ?_
    exact w_iret rfl dSL_indexOf_8 ⟨rfl, trivial, ⟨r1_, hs5_, h4_, (Or.inr ⟨h6_, rfl⟩)⟩⟩
def SP_S_indexOf2_6 (v : Int32) (u : Int32) (Mz : mM) (r_ : Int32) : Prop := (SP_S_isLatin1_6 Mz (1 : Int32)) ∧ (SP_S_length_6 Mz (5 : Int32)) ∧ ∃ r12_ : Int32, (SP_SL_indexOf_6 v u 5 Mz r12_) ∧ r_ = r12_
set_option maxHeartbeats 4000000 in
set_option maxRecDepth 100000 in
theorem c_S_indexOf2_6 {cls : List rf} (l : Launch) (G : va_G) (cy : Nat → ClassId) (ad : rf → Nat) (d : Nat) (v : Int32) (u : Int32) (Mz : mM) : WP cls l G cy ad yS_indexOf2 cS_indexOf2 3 (some .int) (d + 2) 0 [(0, vR (91, 6, 0)), (1, vI v), (2, vI u)] [] Mz (fun r M' => Mz = M' ∧ (True) ∧ SP_S_indexOf2_6 v u Mz r) := by
  refine w_aload_n dS_indexOf2_0 rfl 0 rfl ?_
  refine w_callStr (k := 6) rfl (as := []) (rest := []) (c_S_isLatin1_6 l G cy ad (d + 1) Mz) kV_S_isLatin1 (by decide +kernel) rfl (Nat.le_of_ble_eq_true rfl) m_748 rfl rfl (by decide) (Nat.le_of_ble_eq_true rfl) dS_indexOf2_1 (fun r1_ M2_ q3_ => ?_)
  obtain ⟨rfl, h4_, hs5_⟩ := q3_
  subst h4_
  refine w_if_eq (tgt := 23) dS_indexOf2_4 (by decide) li_1 (fun h9 => (absurd h9 (by decide))) (fun h6_ => ?_)
  refine w_aload_n dS_indexOf2_7 rfl 0 rfl ?_
  refine w_getSv (k := 6) rfl m_1872 dS_indexOf2_8 ?_
  refine w_iload_n dS_indexOf2_11 rfl 1 rfl ?_
  refine w_iload_n dS_indexOf2_12 rfl 2 rfl ?_
  refine w_aload_n dS_indexOf2_13 rfl 0 rfl ?_
  refine w_callStr (k := 6) rfl (as := []) (rest := [vI u, vI v, vR (90, 16, 0)]) (c_S_length_6 l G cy ad d Mz) kV_S_length (by decide +kernel) rfl (Nat.le_of_ble_eq_true rfl) m_754 rfl rfl (by decide) (Nat.le_of_ble_eq_true rfl) dS_indexOf2_14 (fun r7_ M8_ q9_ => ?_)
  obtain ⟨rfl, h10_, hs11_⟩ := q9_
  subst h10_
  refine w_callS (as := [vR (90, 16, 0), vI v, vI u, vI 5]) (rest := []) (c_SL_indexOf_6 l G cy ad d v u 5 Mz) kS_SL_indexOf (by decide +kernel) (Nat.le_of_ble_eq_true rfl) m_762 rfl rfl (by decide) (Nat.le_of_ble_eq_true rfl) dS_indexOf2_17 (fun r12_ M13_ q14_ => ?_)
  obtain ⟨rfl, h15_, hs16_⟩ := q14_
  refine w_goto (tgt := 36) dS_indexOf2_20 (by decide) ?_
  exact w_iret rfl dS_indexOf2_36 ⟨rfl, trivial, ⟨hs5_, hs11_, r12_, hs16_, rfl⟩⟩
def SP_S_indexOf_6 (v : Int32) (Mz : mM) (r_ : Int32) : Prop := ∃ r1_ : Int32, (SP_S_indexOf2_6 v 0 Mz r1_) ∧ r_ = r1_
set_option maxHeartbeats 4000000 in
set_option maxRecDepth 100000 in
theorem c_S_indexOf_6 {cls : List rf} (l : Launch) (G : va_G) (cy : Nat → ClassId) (ad : rf → Nat) (d : Nat) (v : Int32) (Mz : mM) : WP cls l G cy ad yS_indexOf cS_indexOf 2 (some .int) (d + 3) 0 [(0, vR (91, 6, 0)), (1, vI v)] [] Mz (fun r M' => Mz = M' ∧ (True) ∧ SP_S_indexOf_6 v Mz r) := by
  refine w_aload_n dS_indexOf_0 rfl 0 rfl ?_
  refine w_iload_n dS_indexOf_1 rfl 1 rfl ?_
  refine w_iconst (v := 0) dS_indexOf_2 (by decide) ?_
  refine w_callStr (k := 6) rfl (as := [vI v, vI 0]) (rest := []) (c_S_indexOf2_6 l G cy ad d v 0 Mz) kV_S_indexOf2 (by decide +kernel) rfl (Nat.le_of_ble_eq_true rfl) m_744 rfl rfl (by decide) (Nat.le_of_ble_eq_true rfl) dS_indexOf_3 (fun r1_ M2_ q3_ => ?_)
  obtain ⟨rfl, h4_, hs5_⟩ := q3_
  exact w_iret rfl dS_indexOf_6 ⟨rfl, trivial, ⟨r1_, hs5_, rfl⟩⟩
def IXO (k : Nat) (x z : Int32) (M : mM) : Prop := match k with
  | 0 => SP_S_indexOf_0 x M z
  | 1 => SP_S_indexOf_1 x M z
  | 2 => SP_S_indexOf_2 x M z
  | 3 => SP_S_indexOf_3 x M z
  | 4 => SP_S_indexOf_4 x M z
  | 5 => SP_S_indexOf_5 x M z
  | 6 => SP_S_indexOf_6 x M z
  | _ => False
section WPIX
variable {cls : List rf} {l : Launch} {G : va_G} {cy : Nat → ClassId} {ad : rf → Nat} {y : MethodName} {b : ByteArray} {n : Nat} {r : Option FieldType} {d : Nat} {pc : Nat} {ls : List (Nat × mV)} {st : List mV} {M : mM} {Q : Int32 → mM → Prop}
/-- String.indexOf(int) of a constant: some int -/
theorem w_indexOf {k : Nat} {x : Int32} {idx : Nat} (hk : k < 7) (hl1 : Cond.methodLink y.cls idx yS_indexOf ∈ BASE) (hs : st.length ≤ 4) (hd1 : 8 ≤ d) (hd : decode b pc = .ok (.invokevirtual idx, 3)) (kk : ∀ z : Int32, IXO k x z M → WP cls l G cy ad y b n r d (pc + 3) ls (vI z :: st) M Q) : WP cls l G cy ad y b n r d pc ls (vI x :: vR (91, k, 0) :: st) M Q := by
  obtain ⟨e, rfl⟩ : ∃ e : Nat, d = e + 3 + 1 := ⟨d - 4, by omega⟩
  match k, hk with
  | 0, _ => exact w_callStr (k := 0) rfl (as := [vI x]) (rest := st) (c_S_indexOf_0 l G cy ad e x M) kV_S_indexOf (by decide +kernel) rfl (Nat.le_of_ble_eq_true rfl) hl1 rfl rfl (by decide) hs hd (fun v M9 q => by obtain ⟨rfl, -, hs_⟩ := q; exact kk v hs_)
  | 1, _ => exact w_callStr (k := 1) rfl (as := [vI x]) (rest := st) (c_S_indexOf_1 l G cy ad e x M) kV_S_indexOf (by decide +kernel) rfl (Nat.le_of_ble_eq_true rfl) hl1 rfl rfl (by decide) hs hd (fun v M9 q => by obtain ⟨rfl, -, hs_⟩ := q; exact kk v hs_)
  | 2, _ => exact w_callStr (k := 2) rfl (as := [vI x]) (rest := st) (c_S_indexOf_2 l G cy ad e x M) kV_S_indexOf (by decide +kernel) rfl (Nat.le_of_ble_eq_true rfl) hl1 rfl rfl (by decide) hs hd (fun v M9 q => by obtain ⟨rfl, -, hs_⟩ := q; exact kk v hs_)
  | 3, _ => exact w_callStr (k := 3) rfl (as := [vI x]) (rest := st) (c_S_indexOf_3 l G cy ad e x M) kV_S_indexOf (by decide +kernel) rfl (Nat.le_of_ble_eq_true rfl) hl1 rfl rfl (by decide) hs hd (fun v M9 q => by obtain ⟨rfl, -, hs_⟩ := q; exact kk v hs_)
  | 4, _ => exact w_callStr (k := 4) rfl (as := [vI x]) (rest := st) (c_S_indexOf_4 l G cy ad e x M) kV_S_indexOf (by decide +kernel) rfl (Nat.le_of_ble_eq_true rfl) hl1 rfl rfl (by decide) hs hd (fun v M9 q => by obtain ⟨rfl, -, hs_⟩ := q; exact kk v hs_)
  | 5, _ => exact w_callStr (k := 5) rfl (as := [vI x]) (rest := st) (c_S_indexOf_5 l G cy ad e x M) kV_S_indexOf (by decide +kernel) rfl (Nat.le_of_ble_eq_true rfl) hl1 rfl rfl (by decide) hs hd (fun v M9 q => by obtain ⟨rfl, -, hs_⟩ := q; exact kk v hs_)
  | 6, _ => exact w_callStr (k := 6) rfl (as := [vI x]) (rest := st) (c_S_indexOf_6 l G cy ad e x M) kV_S_indexOf (by decide +kernel) rfl (Nat.le_of_ble_eq_true rfl) hl1 rfl rfl (by decide) hs hd (fun v M9 q => by obtain ⟨rfl, -, hs_⟩ := q; exact kk v hs_)
end WPIX
