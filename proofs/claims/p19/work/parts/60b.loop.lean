set_option maxHeartbeats 4000000 in
set_option maxRecDepth 100000 in
theorem law_loop {p : Program} {l : Launch} {e : Env} {s : State} {m : MethodId} {below : List Frame} {meth : Method} {c : Code} {b L : Nat} {xs : Nat → Int32} {A : Nat → Prop} {G : va_G} {cy : Nat → ClassId} {ad : rf → Nat} {ce sl : Nat} {Z : State → Prop} (X : LX p s m c b L xs A G cy ad ce sl) (hfin : ∀ (M : mM) (ls : List (Nat × mV)), WL p l e s m below meth c b A G cy ad ce sl Z 1737 ls [] M) : ∀ (nn : Nat) (i : Int32) (M : mM), Inv M → InvD M → RY M.1 → 0 ≤ i.toInt ∧ i.toInt ≤ (L : Int) → ((L : Int) - i.toInt).toNat < nn → WL p l e s m below meth c b A G cy ad ce sl Z 18 [(3, vI i), (0, vR (94, 0, 0)), (1, vR (11, 0, 0)), (2, vR (12, 0, 0))] [] M := by
  intro nn
  induction nn with
  | zero => intro i M hI hD hR hi hm; exact absurd hm (Nat.not_lt_zero _)
  | succ nn ih =>
    intro i M hI hD hR hi hm
    have hL := X.2.2.2.2.2.2.2.2.2.2.2.2.1
    refine wl_iload_n X dL_law_18 rfl 0 rfl ?_
    refine wl_aload_n X dL_law_19 rfl 1 rfl ?_
    refine wl_slen X dL_law_20 (fun z hz => ?_)
    refine wl_bipush X (v := 6) dL_law_21 (by decide) ?_
    refine wl_isubB X dL_law_23 hz (c0 := 6) (by decide) (by omega) (fun z2 hz2 => ?_)
    refine wl_icmp_gt X (tgt := 1737) dL_law_24 (by decide) rfl hz2 (fun _ => hfin _ _) (fun h6 => ?_)
    have hi6 : 0 ≤ i.toInt ∧ i.toInt + 6 ≤ (L : Int) := ⟨hi.1, by omega⟩
    refine wl_aload_n X dL_law_27 rfl 1 rfl ?_
    refine wl_iload_n X dL_law_28 rfl 0 rfl ?_
    refine wl_sld X i.toInt.toNat (by omega) (by omega) dL_law_29 ?_
    refine wl_bipush X (v := 63) dL_law_30 (by decide) ?_
    refine wl_iandB X 6 dL_law_32 (by decide) (by decide) (fun w hw => ?_)
    have hend : ∀ M' : mM, Inv M' → InvD M' → RY M'.1 → WL p l e s m below meth c b A G cy ad ce sl Z 1731 [(3, vI i), (0, vR (94, 0, 0)), (1, vR (11, 0, 0)), (2, vR (12, 0, 0))] [] M' := by
      intro M' hI' hD' hR'
      refine wl_iincB X (j := 0) (f := fun z => [(3, vI z), (0, vR (94, 0, 0)), (1, vR (11, 0, 0)), (2, vR (12, 0, 0))]) dL_law_1731 rfl (by decide) (fun _ => rfl) rfl (by decide) (by omega) (fun z3 hz3 => ?_)
      refine wl_goto X (tgt := 18) dL_law_1734 (by decide) ?_
      exact ih z3 M' hI' hD' hR' ⟨by omega, by omega⟩ (by omega)
    obtain ⟨j, hj⟩ : ∃ j : Nat, w.toInt = (j : Int) := ⟨w.toInt.toNat, by omega⟩
    rcases Nat.lt_or_ge j 41 with h41 | h41
    · match j, h41 with
      | 0, _ => exact wl_tsIn X (tgt := 212) (off := 179) dL_law_33 hj (by decide) (by decide) rfl (by decide) (law_case_0 X hI hD hR hi6 hend)
      | 1, _ => exact wl_tsIn X (tgt := 245) (off := 212) dL_law_33 hj (by decide) (by decide) rfl (by decide) (law_case_1 X hI hD hR hi6 hend)
      | 2, _ => exact wl_tsIn X (tgt := 278) (off := 245) dL_law_33 hj (by decide) (by decide) rfl (by decide) (law_case_2 X hI hD hR hi6 hend)
      | 3, _ => exact wl_tsIn X (tgt := 321) (off := 288) dL_law_33 hj (by decide) (by decide) rfl (by decide) (law_case_3 X hI hD hR hi6 hend)
      | 4, _ => exact wl_tsIn X (tgt := 344) (off := 311) dL_law_33 hj (by decide) (by decide) rfl (by decide) (law_case_4 X hI hD hR hi6 hend)
      | 5, _ => exact wl_tsIn X (tgt := 387) (off := 354) dL_law_33 hj (by decide) (by decide) rfl (by decide) (law_case_5 X hI hD hR hi6 hend)
      | 6, _ => exact wl_tsIn X (tgt := 410) (off := 377) dL_law_33 hj (by decide) (by decide) rfl (by decide) (law_case_6 X hI hD hR hi6 hend)
      | 7, _ => exact wl_tsIn X (tgt := 443) (off := 410) dL_law_33 hj (by decide) (by decide) rfl (by decide) (law_case_7 X hI hD hR hi6 hend)
      | 8, _ => exact wl_tsIn X (tgt := 476) (off := 443) dL_law_33 hj (by decide) (by decide) rfl (by decide) (law_case_8 X hI hD hR hi6 hend)
      | 9, _ => exact wl_tsIn X (tgt := 519) (off := 486) dL_law_33 hj (by decide) (by decide) rfl (by decide) (law_case_9 X hI hD hR hi6 hend)
      | 10, _ => exact wl_tsIn X (tgt := 552) (off := 519) dL_law_33 hj (by decide) (by decide) rfl (by decide) (law_case_10 X hI hD hR hi6 hend)
      | 11, _ => exact wl_tsIn X (tgt := 585) (off := 552) dL_law_33 hj (by decide) (by decide) rfl (by decide) (law_case_11 X hI hD hR hi6 hend)
      | 12, _ => exact wl_tsIn X (tgt := 638) (off := 605) dL_law_33 hj (by decide) (by decide) rfl (by decide) (law_case_12 X hI hD hR hi6 hend)
      | 13, _ => exact wl_tsIn X (tgt := 671) (off := 638) dL_law_33 hj (by decide) (by decide) rfl (by decide) (law_case_13 X hI hD hR hi6 hend)
      | 14, _ => exact wl_tsIn X (tgt := 720) (off := 687) dL_law_33 hj (by decide) (by decide) rfl (by decide) (law_case_14 X hI hD hR hi6 hend)
      | 15, _ => exact wl_tsIn X (tgt := 783) (off := 750) dL_law_33 hj (by decide) (by decide) rfl (by decide) (law_case_15 X hI hD hR hi6 hend)
      | 16, _ => exact wl_tsIn X (tgt := 806) (off := 773) dL_law_33 hj (by decide) (by decide) rfl (by decide) (law_case_16 X hI hD hR hi6 hend)
      | 17, _ => exact wl_tsIn X (tgt := 859) (off := 826) dL_law_33 hj (by decide) (by decide) rfl (by decide) (law_case_17 X hI hD hR hi6 hend)
      | 18, _ => exact wl_tsIn X (tgt := 882) (off := 849) dL_law_33 hj (by decide) (by decide) rfl (by decide) (law_case_18 X hI hD hR hi6 hend)
      | 19, _ => exact wl_tsIn X (tgt := 925) (off := 892) dL_law_33 hj (by decide) (by decide) rfl (by decide) (law_case_19 X hI hD hR hi6 hend)
      | 20, _ => exact wl_tsIn X (tgt := 958) (off := 925) dL_law_33 hj (by decide) (by decide) rfl (by decide) (law_case_20 X hI hD hR hi6 hend)
      | 21, _ => exact wl_tsIn X (tgt := 1021) (off := 988) dL_law_33 hj (by decide) (by decide) rfl (by decide) (law_case_21 X hI hD hR hi6 hend)
      | 22, _ => exact wl_tsIn X (tgt := 1074) (off := 1041) dL_law_33 hj (by decide) (by decide) rfl (by decide) (law_case_22 X hI hD hR hi6 hend)
      | 23, _ => exact wl_tsIn X (tgt := 1117) (off := 1084) dL_law_33 hj (by decide) (by decide) rfl (by decide) (law_case_23 X hI hD hR hi6 hend)
      | 24, _ => exact wl_tsIn X (tgt := 1170) (off := 1137) dL_law_33 hj (by decide) (by decide) rfl (by decide) (law_case_24 X hI hD hR hi6 hend)
      | 25, _ => exact wl_tsIn X (tgt := 1193) (off := 1160) dL_law_33 hj (by decide) (by decide) rfl (by decide) (law_case_25 X hI hD hR hi6 hend)
      | 26, _ => exact wl_tsIn X (tgt := 1236) (off := 1203) dL_law_33 hj (by decide) (by decide) rfl (by decide) (law_case_26 X hI hD hR hi6 hend)
      | 27, _ => exact wl_tsIn X (tgt := 1259) (off := 1226) dL_law_33 hj (by decide) (by decide) rfl (by decide) (law_case_27 X hI hD hR hi6 hend)
      | 28, _ => exact wl_tsIn X (tgt := 1302) (off := 1269) dL_law_33 hj (by decide) (by decide) rfl (by decide) (law_case_28 X hI hD hR hi6 hend)
      | 29, _ => exact wl_tsIn X (tgt := 1345) (off := 1312) dL_law_33 hj (by decide) (by decide) rfl (by decide) (law_case_29 X hI hD hR hi6 hend)
      | 30, _ => exact wl_tsIn X (tgt := 1398) (off := 1365) dL_law_33 hj (by decide) (by decide) rfl (by decide) (law_case_30 X hI hD hR hi6 hend)
      | 31, _ => exact wl_tsIn X (tgt := 1441) (off := 1408) dL_law_33 hj (by decide) (by decide) rfl (by decide) (law_case_31 X hI hD hR hi6 hend)
      | 32, _ => exact wl_tsIn X (tgt := 1464) (off := 1431) dL_law_33 hj (by decide) (by decide) rfl (by decide) (law_case_32 X hI hD hR hi6 hend)
      | 33, _ => exact wl_tsIn X (tgt := 1507) (off := 1474) dL_law_33 hj (by decide) (by decide) rfl (by decide) (law_case_33 X hI hD hR hi6 hend)
      | 34, _ => exact wl_tsIn X (tgt := 1550) (off := 1517) dL_law_33 hj (by decide) (by decide) rfl (by decide) (law_case_34 X hI hD hR hi6 hend)
      | 35, _ => exact wl_tsIn X (tgt := 1613) (off := 1580) dL_law_33 hj (by decide) (by decide) rfl (by decide) (law_case_35 X hI hD hR hi6 hend)
      | 36, _ => exact wl_tsIn X (tgt := 1626) (off := 1593) dL_law_33 hj (by decide) (by decide) rfl (by decide) (law_case_36 X hI hD hR hi6 hend)
      | 37, _ => exact wl_tsIn X (tgt := 1639) (off := 1606) dL_law_33 hj (by decide) (by decide) rfl (by decide) (law_case_37 X hI hD hR hi6 hend)
      | 38, _ => exact wl_tsIn X (tgt := 1662) (off := 1629) dL_law_33 hj (by decide) (by decide) rfl (by decide) (law_case_38 X hI hD hR hi6 hend)
      | 39, _ => exact wl_tsIn X (tgt := 1685) (off := 1652) dL_law_33 hj (by decide) (by decide) rfl (by decide) (law_case_39 X hI hD hR hi6 hend)
      | 40, _ => exact wl_tsIn X (tgt := 1708) (off := 1675) dL_law_33 hj (by decide) (by decide) rfl (by decide) (law_case_40 X hI hD hR hi6 hend)
      | j + 41, h => exact absurd h (by omega)
    · exact wl_tsOut X (tgt := 1731) dL_law_33 hj (Or.inr (by omega)) (by decide) (hend M hI hD hR)
