/-! words of the tables that are used, by their places; decode rows; fields -/
theorem li_50 : (50 : Int32).toInt = 50 := by decide
theorem li_345 : (345 : Int32).toInt = 345 := by decide
theorem li_1000 : (1000 : Int32).toInt = 1000 := by decide
theorem li_2008 : (2008 : Int32).toInt = 2008 := by decide
theorem li_2009 : (2009 : Int32).toInt = 2009 := by decide
theorem m_46 : Cond.selects yX12_isClick.cls yX12_isClick yX12_isClick ∈ BASE := bmem 46 (by decide +kernel) rfl
theorem m_47 : Cond.selects yX12_echoFrom.cls yX12_echoFrom yX12_echoFrom ∈ BASE := bmem 47 (by decide +kernel) rfl
theorem m_48 : Cond.selects yX12_on.cls yX12_on yX12_on ∈ BASE := bmem 48 (by decide +kernel) rfl
theorem m_49 : Cond.selects yX12_kindIn.cls yX12_kindIn yX12_kindIn ∈ BASE := bmem 49 (by decide +kernel) rfl
theorem m_50 : Cond.selects yX12_strength.cls yX12_strength yX12_strength ∈ BASE := bmem 50 (by decide +kernel) rfl
theorem m_51 : Cond.selects yX12_hasText.cls yX12_hasText yX12_hasText ∈ BASE := bmem 51 (by decide +kernel) rfl
theorem m_52 : Cond.selects yX12_given.cls yX12_given yX12_given ∈ BASE := bmem 52 (by decide +kernel) rfl
theorem m_53 : Cond.selects yX12_isHeard.cls yX12_isHeard yX12_isHeard ∈ BASE := bmem 53 (by decide +kernel) rfl
theorem m_54 : Cond.selects yX12_clicks.cls yX12_clicks yX12_clicks ∈ BASE := bmem 54 (by decide +kernel) rfl
theorem m_55 : Cond.selects yX12_heardFrom.cls yX12_heardFrom yX12_heardFrom ∈ BASE := bmem 55 (by decide +kernel) rfl
theorem m_56 : Cond.selects yX12_no.cls yX12_no yX12_no ∈ BASE := bmem 56 (by decide +kernel) rfl
theorem m_58 : Cond.selects yX12_more.cls yX12_more yX12_more ∈ BASE := bmem 58 (by decide +kernel) rfl
theorem m_59 : Cond.selects yX12_held.cls yX12_held yX12_held ∈ BASE := bmem 59 (by decide +kernel) rfl
set_option maxRecDepth 20000 in
theorem m_1339 : Cond.fieldLink RX12 47 "ClickStreetModel" "named" "[I" ∈ BASE := bmT6 61 rfl rfl
set_option maxRecDepth 20000 in
theorem m_1340 : Cond.fieldLink RX12 50 "ClickStreetModel" "pile" "[I" ∈ BASE := bmT6 62 rfl rfl
set_option maxRecDepth 20000 in
theorem m_1624 : Cond.methodLink RX12 237 yX12_isClick ∈ BASE := bmT7 106 rfl rfl
set_option maxRecDepth 20000 in
theorem m_1626 : Cond.instanceMethod yX12_isClick ∈ BASE := bmT7 108 rfl rfl
set_option maxRecDepth 20000 in
theorem m_1627 : Cond.code yX12_isClick cX12_isClick 2 (some .boolean) ∈ BASE := bmT7 109 rfl rfl
set_option maxRecDepth 20000 in
theorem m_1628 : Cond.methodLink RX12 240 yX12_echoFrom ∈ BASE := bmT7 110 rfl rfl
set_option maxRecDepth 20000 in
theorem m_1630 : Cond.instanceMethod yX12_echoFrom ∈ BASE := bmT7 112 rfl rfl
set_option maxRecDepth 20000 in
theorem m_1631 : Cond.code yX12_echoFrom cX12_echoFrom 5 (some .int) ∈ BASE := bmT7 113 rfl rfl
set_option maxRecDepth 20000 in
theorem m_1632 : Cond.methodLink RX12 234 yX12_on ∈ BASE := bmT7 114 rfl rfl
set_option maxRecDepth 20000 in
theorem m_1634 : Cond.instanceMethod yX12_on ∈ BASE := bmT7 116 rfl rfl
set_option maxRecDepth 20000 in
theorem m_1635 : Cond.code yX12_on cX12_on 6 (some .int) ∈ BASE := bmT7 117 rfl rfl
set_option maxRecDepth 20000 in
theorem m_1636 : Cond.methodLink RX12 243 yX12_kindIn ∈ BASE := bmT7 118 rfl rfl
set_option maxRecDepth 20000 in
theorem m_1638 : Cond.instanceMethod yX12_kindIn ∈ BASE := bmT7 120 rfl rfl
set_option maxRecDepth 20000 in
theorem m_1639 : Cond.code yX12_kindIn cX12_kindIn 3 (some .int) ∈ BASE := bmT7 121 rfl rfl
set_option maxRecDepth 20000 in
theorem m_1640 : Cond.methodLink RX12 230 yX12_strength ∈ BASE := bmT7 122 rfl rfl
set_option maxRecDepth 20000 in
theorem m_1642 : Cond.instanceMethod yX12_strength ∈ BASE := bmT7 124 rfl rfl
set_option maxRecDepth 20000 in
theorem m_1643 : Cond.code yX12_strength cX12_strength 7 (some .int) ∈ BASE := bmT7 125 rfl rfl
set_option maxRecDepth 20000 in
theorem m_1644 : Cond.methodLink RX12 213 yX12_hasText ∈ BASE := bmT7 126 rfl rfl
set_option maxRecDepth 20000 in
theorem m_1646 : Cond.instanceMethod yX12_hasText ∈ BASE := bmT7 128 rfl rfl
set_option maxRecDepth 20000 in
theorem m_1647 : Cond.code yX12_hasText cX12_hasText 2 (some .boolean) ∈ BASE := bmT7 129 rfl rfl
set_option maxRecDepth 20000 in
theorem m_1648 : Cond.methodLink RX12 216 yX12_given ∈ BASE := bmT7 130 rfl rfl
set_option maxRecDepth 20000 in
theorem m_1650 : Cond.instanceMethod yX12_given ∈ BASE := bmT7 132 rfl rfl
set_option maxRecDepth 20000 in
theorem m_1651 : Cond.code yX12_given cX12_given 6 (some .int) ∈ BASE := bmT7 133 rfl rfl
set_option maxRecDepth 20000 in
theorem m_1652 : Cond.methodLink RX12 209 yX12_done ∈ BASE := bmT7 134 rfl rfl
set_option maxRecDepth 20000 in
theorem m_1653 : Cond.static yX12_done ∈ BASE := bmT7 135 rfl rfl
set_option maxRecDepth 20000 in
theorem m_1654 : Cond.code yX12_done cX12_done 3 (some .int) ∈ BASE := bmT7 136 rfl rfl
set_option maxRecDepth 20000 in
theorem m_1655 : Cond.methodLink RX12 219 Lib.Math.min.name ∈ BASE := bmT7 137 rfl rfl
set_option maxRecDepth 20000 in
theorem m_1656 : Cond.methodLink RX12 224 Lib.Math.max.name ∈ BASE := bmT7 138 rfl rfl
set_option maxRecDepth 20000 in
theorem m_1657 : Cond.methodLink RX12 227 yX12_late ∈ BASE := bmT7 139 rfl rfl
set_option maxRecDepth 20000 in
theorem m_1658 : Cond.static yX12_late ∈ BASE := bmT7 140 rfl rfl
set_option maxRecDepth 20000 in
theorem m_1659 : Cond.code yX12_late cX12_late 2 (some .int) ∈ BASE := bmT7 141 rfl rfl
set_option maxRecDepth 20000 in
theorem m_1660 : Cond.methodLink RX12 246 yX12_ear ∈ BASE := bmT7 142 rfl rfl
set_option maxRecDepth 20000 in
theorem m_1661 : Cond.static yX12_ear ∈ BASE := bmT7 143 rfl rfl
set_option maxRecDepth 20000 in
theorem m_1662 : Cond.code yX12_ear cX12_ear 5 (some .int) ∈ BASE := bmT7 144 rfl rfl
set_option maxRecDepth 20000 in
theorem m_1663 : Cond.methodLink RX12 249 yX12_isHeard ∈ BASE := bmT7 145 rfl rfl
set_option maxRecDepth 20000 in
theorem m_1665 : Cond.instanceMethod yX12_isHeard ∈ BASE := bmT7 147 rfl rfl
set_option maxRecDepth 20000 in
theorem m_1666 : Cond.code yX12_isHeard cX12_isHeard 9 (some .boolean) ∈ BASE := bmT7 148 rfl rfl
set_option maxRecDepth 20000 in
theorem m_1671 : Cond.methodLink RX12 266 yX12_clicks ∈ BASE := bmT7 153 rfl rfl
set_option maxRecDepth 20000 in
theorem m_1673 : Cond.instanceMethod yX12_clicks ∈ BASE := bmT7 155 rfl rfl
set_option maxRecDepth 20000 in
theorem m_1674 : Cond.code yX12_clicks cX12_clicks 7 (some .int) ∈ BASE := bmT7 156 rfl rfl
set_option maxRecDepth 20000 in
theorem m_1675 : Cond.methodLink RX12 256 yX12_heardFrom ∈ BASE := bmT7 157 rfl rfl
set_option maxRecDepth 20000 in
theorem m_1677 : Cond.instanceMethod yX12_heardFrom ∈ BASE := bmT7 159 rfl rfl
set_option maxRecDepth 20000 in
theorem m_1678 : Cond.code yX12_heardFrom cX12_heardFrom 7 (some .int) ∈ BASE := bmT7 160 rfl rfl
set_option maxRecDepth 20000 in
theorem m_1679 : Cond.methodLink RX12 259 yX12_no ∈ BASE := bmT7 161 rfl rfl
set_option maxRecDepth 20000 in
theorem m_1681 : Cond.instanceMethod yX12_no ∈ BASE := bmT7 163 rfl rfl
set_option maxRecDepth 20000 in
theorem m_1682 : Cond.code yX12_no cX12_no 3 (some .int) ∈ BASE := bmT7 164 rfl rfl
set_option maxRecDepth 20000 in
theorem m_1687 : Cond.methodLink RX12 262 yX12_more ∈ BASE := bmT7 169 rfl rfl
set_option maxRecDepth 20000 in
theorem m_1689 : Cond.instanceMethod yX12_more ∈ BASE := bmT7 171 rfl rfl
set_option maxRecDepth 20000 in
theorem m_1690 : Cond.code yX12_more cX12_more 3 none ∈ BASE := bmT7 172 rfl rfl
set_option maxRecDepth 20000 in
theorem m_1695 : Cond.methodLink RX12 269 yX12_held ∈ BASE := bmT7 177 rfl rfl
set_option maxRecDepth 20000 in
theorem m_1697 : Cond.instanceMethod yX12_held ∈ BASE := bmT7 179 rfl rfl
set_option maxRecDepth 20000 in
theorem m_1698 : Cond.code yX12_held cX12_held 5 (some .int) ∈ BASE := bmT7 180 rfl rfl
theorem kS_X12_done : KS yX12_done cX12_done 3 (some .int) 3 := ⟨m_1653, m_92, m_1654, nhM_17, nhV_17, pdn_3⟩
theorem kS_X12_ear : KS yX12_ear cX12_ear 5 (some .int) 4 := ⟨m_1661, m_92, m_1662, nhM_17, nhV_17, pdn_25⟩
theorem kS_X12_late : KS yX12_late cX12_late 2 (some .int) 2 := ⟨m_1658, m_92, m_1659, nhM_17, nhV_17, pdn_8⟩
theorem kV_X12_clicks : KV yX12_clicks cX12_clicks 7 (some .int) 1 := ⟨m_1673, m_54, m_92, m_1674, nhM_17, nhV_17, pdn_2⟩
theorem kV_X12_echoFrom : KV yX12_echoFrom cX12_echoFrom 5 (some .int) 3 := ⟨m_1630, m_47, m_92, m_1631, nhM_17, nhV_17, pdn_3⟩
theorem kV_X12_given : KV yX12_given cX12_given 6 (some .int) 1 := ⟨m_1650, m_52, m_92, m_1651, nhM_17, nhV_17, pdn_2⟩
theorem kV_X12_hasText : KV yX12_hasText cX12_hasText 2 (some .boolean) 1 := ⟨m_1646, m_51, m_92, m_1647, nhM_17, nhV_17, pdn_1⟩
theorem kV_X12_heardFrom : KV yX12_heardFrom cX12_heardFrom 7 (some .int) 3 := ⟨m_1677, m_55, m_92, m_1678, nhM_17, nhV_17, pdn_3⟩
theorem kV_X12_held : KV yX12_held cX12_held 5 (some .int) 2 := ⟨m_1697, m_59, m_92, m_1698, nhM_17, nhV_17, pdn_8⟩
theorem kV_X12_isClick : KV yX12_isClick cX12_isClick 2 (some .boolean) 1 := ⟨m_1626, m_46, m_92, m_1627, nhM_17, nhV_17, pdn_1⟩
theorem kV_X12_isHeard : KV yX12_isHeard cX12_isHeard 9 (some .boolean) 6 := ⟨m_1665, m_53, m_92, m_1666, nhM_17, nhV_17, pdn_38⟩
theorem kV_X12_kindIn : KV yX12_kindIn cX12_kindIn 3 (some .int) 1 := ⟨m_1638, m_49, m_92, m_1639, nhM_17, nhV_17, pdn_2⟩
theorem kV_X12_more : KV yX12_more cX12_more 3 none 2 := ⟨m_1689, m_58, m_92, m_1690, nhM_17, nhV_17, pdn_5⟩
theorem kV_X12_no : KV yX12_no cX12_no 3 (some .int) 2 := ⟨m_1681, m_56, m_92, m_1682, nhM_17, nhV_17, pdn_8⟩
theorem kV_X12_on : KV yX12_on cX12_on 6 (some .int) 3 := ⟨m_1634, m_48, m_92, m_1635, nhM_17, nhV_17, pdn_3⟩
theorem kV_X12_strength : KV yX12_strength cX12_strength 7 (some .int) 4 := ⟨m_1642, m_50, m_92, m_1643, nhM_17, nhV_17, pdn_25⟩
theorem fl_RX12_47 : FLK RX12 47 12 16 (.array .int) true := ⟨RX12, TX12, 33, tyX12, rfl, inB12, tyX12_ok, nmX12, by decide, rfl, rfl, Or.inl m_1339⟩
theorem fl_RX12_50 : FLK RX12 50 12 17 (.array .int) true := ⟨RX12, TX12, 33, tyX12, rfl, inB12, tyX12_ok, nmX12, by decide, rfl, rfl, Or.inl m_1340⟩
theorem ch_cX12_alike_0 : (cX12_alike.data.toList.drop 0).take 36 = [42, 27, 5, 182, 0, 116, 153, 0, 32, 42, 28, 182, 0, 237, 153, 0, 24, 29, 4, 42, 27, 182, 0, 140, 184, 0, 85, 153, 0, 11, 21, 4, 184, 0, 120, 154] := by decide +kernel
theorem dX12_alike_0 : decode cX12_alike 0 = .ok (.aload_n 0, 1) := do_42 (rdb (p := 0) (i := 0) ch_cX12_alike_0 rfl)
theorem dX12_alike_1 : decode cX12_alike 1 = .ok (.iload_n 1, 1) := do_27 (rdb (p := 0) (i := 1) ch_cX12_alike_0 rfl)
theorem dX12_alike_2 : decode cX12_alike 2 = .ok (.iconst 2, 1) := do_5 (rdb (p := 0) (i := 2) ch_cX12_alike_0 rfl)
theorem dX12_alike_3 : decode cX12_alike 3 = .ok (.invokevirtual 116, 3) := do_182 (rdb (p := 0) (i := 3) ch_cX12_alike_0 rfl) (rdb (p := 0) (i := 4) ch_cX12_alike_0 rfl) (rdb (p := 0) (i := 5) ch_cX12_alike_0 rfl) rfl
theorem dX12_alike_6 : decode cX12_alike 6 = .ok (.ifCond .eq 32, 3) := do_153 (rdb (p := 0) (i := 6) ch_cX12_alike_0 rfl) (rdb (p := 0) (i := 7) ch_cX12_alike_0 rfl) (rdb (p := 0) (i := 8) ch_cX12_alike_0 rfl) (by decide +kernel)
theorem dX12_alike_9 : decode cX12_alike 9 = .ok (.aload_n 0, 1) := do_42 (rdb (p := 0) (i := 9) ch_cX12_alike_0 rfl)
theorem dX12_alike_10 : decode cX12_alike 10 = .ok (.iload_n 2, 1) := do_28 (rdb (p := 0) (i := 10) ch_cX12_alike_0 rfl)
theorem dX12_alike_11 : decode cX12_alike 11 = .ok (.invokevirtual 237, 3) := do_182 (rdb (p := 0) (i := 11) ch_cX12_alike_0 rfl) (rdb (p := 0) (i := 12) ch_cX12_alike_0 rfl) (rdb (p := 0) (i := 13) ch_cX12_alike_0 rfl) rfl
theorem dX12_alike_14 : decode cX12_alike 14 = .ok (.ifCond .eq 24, 3) := do_153 (rdb (p := 0) (i := 14) ch_cX12_alike_0 rfl) (rdb (p := 0) (i := 15) ch_cX12_alike_0 rfl) (rdb (p := 0) (i := 16) ch_cX12_alike_0 rfl) (by decide +kernel)
theorem dX12_alike_17 : decode cX12_alike 17 = .ok (.iload_n 3, 1) := do_29 (rdb (p := 0) (i := 17) ch_cX12_alike_0 rfl)
theorem dX12_alike_18 : decode cX12_alike 18 = .ok (.iconst 1, 1) := do_4 (rdb (p := 0) (i := 18) ch_cX12_alike_0 rfl)
theorem dX12_alike_19 : decode cX12_alike 19 = .ok (.aload_n 0, 1) := do_42 (rdb (p := 0) (i := 19) ch_cX12_alike_0 rfl)
theorem dX12_alike_20 : decode cX12_alike 20 = .ok (.iload_n 1, 1) := do_27 (rdb (p := 0) (i := 20) ch_cX12_alike_0 rfl)
theorem dX12_alike_21 : decode cX12_alike 21 = .ok (.invokevirtual 140, 3) := do_182 (rdb (p := 0) (i := 21) ch_cX12_alike_0 rfl) (rdb (p := 0) (i := 22) ch_cX12_alike_0 rfl) (rdb (p := 0) (i := 23) ch_cX12_alike_0 rfl) rfl
theorem dX12_alike_24 : decode cX12_alike 24 = .ok (.invokestatic 85, 3) := do_184 (rdb (p := 0) (i := 24) ch_cX12_alike_0 rfl) (rdb (p := 0) (i := 25) ch_cX12_alike_0 rfl) (rdb (p := 0) (i := 26) ch_cX12_alike_0 rfl) rfl
theorem dX12_alike_27 : decode cX12_alike 27 = .ok (.ifCond .eq 11, 3) := do_153 (rdb (p := 0) (i := 27) ch_cX12_alike_0 rfl) (rdb (p := 0) (i := 28) ch_cX12_alike_0 rfl) (rdb (p := 0) (i := 29) ch_cX12_alike_0 rfl) (by decide +kernel)
theorem dX12_alike_30 : decode cX12_alike 30 = .ok (.iload 4, 2) := do_21 (rdb (p := 0) (i := 30) ch_cX12_alike_0 rfl) (rdb (p := 0) (i := 31) ch_cX12_alike_0 rfl)
theorem ch_cX12_alike_32 : (cX12_alike.data.toList.drop 32).take 36 = [184, 0, 120, 154, 0, 10, 42, 18, 103, 182, 0, 104, 172, 3, 54, 6, 3, 54, 7, 21, 7, 8, 162, 0, 79, 42, 21, 7, 28, 16, 100, 108, 28, 16, 100, 112] := by decide +kernel
theorem dX12_alike_32 : decode cX12_alike 32 = .ok (.invokestatic 120, 3) := do_184 (rdb (p := 32) (i := 0) ch_cX12_alike_32 rfl) (rdb (p := 32) (i := 1) ch_cX12_alike_32 rfl) (rdb (p := 32) (i := 2) ch_cX12_alike_32 rfl) rfl
theorem dX12_alike_35 : decode cX12_alike 35 = .ok (.ifCond .ne 10, 3) := do_154 (rdb (p := 32) (i := 3) ch_cX12_alike_32 rfl) (rdb (p := 32) (i := 4) ch_cX12_alike_32 rfl) (rdb (p := 32) (i := 5) ch_cX12_alike_32 rfl) (by decide +kernel)
theorem dX12_alike_38 : decode cX12_alike 38 = .ok (.aload_n 0, 1) := do_42 (rdb (p := 32) (i := 6) ch_cX12_alike_32 rfl)
theorem dX12_alike_39 : decode cX12_alike 39 = .ok (.ldc 103, 2) := do_18 (rdb (p := 32) (i := 7) ch_cX12_alike_32 rfl) (rdb (p := 32) (i := 8) ch_cX12_alike_32 rfl)
theorem dX12_alike_41 : decode cX12_alike 41 = .ok (.invokevirtual 104, 3) := do_182 (rdb (p := 32) (i := 9) ch_cX12_alike_32 rfl) (rdb (p := 32) (i := 10) ch_cX12_alike_32 rfl) (rdb (p := 32) (i := 11) ch_cX12_alike_32 rfl) rfl
theorem dX12_alike_44 : decode cX12_alike 44 = .ok (.ireturn, 1) := do_172 (rdb (p := 32) (i := 12) ch_cX12_alike_32 rfl)
theorem dX12_alike_45 : decode cX12_alike 45 = .ok (.iconst 0, 1) := do_3 (rdb (p := 32) (i := 13) ch_cX12_alike_32 rfl)
theorem dX12_alike_46 : decode cX12_alike 46 = .ok (.istore 6, 2) := do_54 (rdb (p := 32) (i := 14) ch_cX12_alike_32 rfl) (rdb (p := 32) (i := 15) ch_cX12_alike_32 rfl)
theorem dX12_alike_48 : decode cX12_alike 48 = .ok (.iconst 0, 1) := do_3 (rdb (p := 32) (i := 16) ch_cX12_alike_32 rfl)
theorem dX12_alike_49 : decode cX12_alike 49 = .ok (.istore 7, 2) := do_54 (rdb (p := 32) (i := 17) ch_cX12_alike_32 rfl) (rdb (p := 32) (i := 18) ch_cX12_alike_32 rfl)
theorem dX12_alike_51 : decode cX12_alike 51 = .ok (.iload 7, 2) := do_21 (rdb (p := 32) (i := 19) ch_cX12_alike_32 rfl) (rdb (p := 32) (i := 20) ch_cX12_alike_32 rfl)
theorem dX12_alike_53 : decode cX12_alike 53 = .ok (.iconst 5, 1) := do_8 (rdb (p := 32) (i := 21) ch_cX12_alike_32 rfl)
theorem dX12_alike_54 : decode cX12_alike 54 = .ok (.if_icmp .ge 79, 3) := do_162 (rdb (p := 32) (i := 22) ch_cX12_alike_32 rfl) (rdb (p := 32) (i := 23) ch_cX12_alike_32 rfl) (rdb (p := 32) (i := 24) ch_cX12_alike_32 rfl) (by decide +kernel)
theorem dX12_alike_57 : decode cX12_alike 57 = .ok (.aload_n 0, 1) := do_42 (rdb (p := 32) (i := 25) ch_cX12_alike_32 rfl)
theorem dX12_alike_58 : decode cX12_alike 58 = .ok (.iload 7, 2) := do_21 (rdb (p := 32) (i := 26) ch_cX12_alike_32 rfl) (rdb (p := 32) (i := 27) ch_cX12_alike_32 rfl)
theorem dX12_alike_60 : decode cX12_alike 60 = .ok (.iload_n 2, 1) := do_28 (rdb (p := 32) (i := 28) ch_cX12_alike_32 rfl)
theorem dX12_alike_61 : decode cX12_alike 61 = .ok (.bipush 100, 2) := do_16 (rdb (p := 32) (i := 29) ch_cX12_alike_32 rfl) (rdb (p := 32) (i := 30) ch_cX12_alike_32 rfl) (by decide +kernel)
theorem dX12_alike_63 : decode cX12_alike 63 = .ok (.idiv, 1) := do_108 (rdb (p := 32) (i := 31) ch_cX12_alike_32 rfl)
theorem ch_cX12_alike_64 : (cX12_alike.data.toList.drop 64).take 36 = [28, 16, 100, 112, 29, 182, 0, 230, 21, 5, 160, 0, 32, 42, 42, 27, 182, 0, 143, 21, 7, 28, 16, 100, 108, 28, 16, 100, 112, 21, 4, 29, 182, 0, 249, 153] := by decide +kernel
theorem dX12_alike_64 : decode cX12_alike 64 = .ok (.iload_n 2, 1) := do_28 (rdb (p := 64) (i := 0) ch_cX12_alike_64 rfl)
theorem dX12_alike_65 : decode cX12_alike 65 = .ok (.bipush 100, 2) := do_16 (rdb (p := 64) (i := 1) ch_cX12_alike_64 rfl) (rdb (p := 64) (i := 2) ch_cX12_alike_64 rfl) (by decide +kernel)
theorem dX12_alike_67 : decode cX12_alike 67 = .ok (.irem, 1) := do_112 (rdb (p := 64) (i := 3) ch_cX12_alike_64 rfl)
theorem dX12_alike_68 : decode cX12_alike 68 = .ok (.iload_n 3, 1) := do_29 (rdb (p := 64) (i := 4) ch_cX12_alike_64 rfl)
theorem dX12_alike_69 : decode cX12_alike 69 = .ok (.invokevirtual 230, 3) := do_182 (rdb (p := 64) (i := 5) ch_cX12_alike_64 rfl) (rdb (p := 64) (i := 6) ch_cX12_alike_64 rfl) (rdb (p := 64) (i := 7) ch_cX12_alike_64 rfl) rfl
theorem dX12_alike_72 : decode cX12_alike 72 = .ok (.iload 5, 2) := do_21 (rdb (p := 64) (i := 8) ch_cX12_alike_64 rfl) (rdb (p := 64) (i := 9) ch_cX12_alike_64 rfl)
theorem dX12_alike_74 : decode cX12_alike 74 = .ok (.if_icmp .ne 32, 3) := do_160 (rdb (p := 64) (i := 10) ch_cX12_alike_64 rfl) (rdb (p := 64) (i := 11) ch_cX12_alike_64 rfl) (rdb (p := 64) (i := 12) ch_cX12_alike_64 rfl) (by decide +kernel)
theorem dX12_alike_77 : decode cX12_alike 77 = .ok (.aload_n 0, 1) := do_42 (rdb (p := 64) (i := 13) ch_cX12_alike_64 rfl)
theorem dX12_alike_78 : decode cX12_alike 78 = .ok (.aload_n 0, 1) := do_42 (rdb (p := 64) (i := 14) ch_cX12_alike_64 rfl)
theorem dX12_alike_79 : decode cX12_alike 79 = .ok (.iload_n 1, 1) := do_27 (rdb (p := 64) (i := 15) ch_cX12_alike_64 rfl)
theorem dX12_alike_80 : decode cX12_alike 80 = .ok (.invokevirtual 143, 3) := do_182 (rdb (p := 64) (i := 16) ch_cX12_alike_64 rfl) (rdb (p := 64) (i := 17) ch_cX12_alike_64 rfl) (rdb (p := 64) (i := 18) ch_cX12_alike_64 rfl) rfl
theorem dX12_alike_83 : decode cX12_alike 83 = .ok (.iload 7, 2) := do_21 (rdb (p := 64) (i := 19) ch_cX12_alike_64 rfl) (rdb (p := 64) (i := 20) ch_cX12_alike_64 rfl)
theorem dX12_alike_85 : decode cX12_alike 85 = .ok (.iload_n 2, 1) := do_28 (rdb (p := 64) (i := 21) ch_cX12_alike_64 rfl)
theorem dX12_alike_86 : decode cX12_alike 86 = .ok (.bipush 100, 2) := do_16 (rdb (p := 64) (i := 22) ch_cX12_alike_64 rfl) (rdb (p := 64) (i := 23) ch_cX12_alike_64 rfl) (by decide +kernel)
theorem dX12_alike_88 : decode cX12_alike 88 = .ok (.idiv, 1) := do_108 (rdb (p := 64) (i := 24) ch_cX12_alike_64 rfl)
theorem dX12_alike_89 : decode cX12_alike 89 = .ok (.iload_n 2, 1) := do_28 (rdb (p := 64) (i := 25) ch_cX12_alike_64 rfl)
theorem dX12_alike_90 : decode cX12_alike 90 = .ok (.bipush 100, 2) := do_16 (rdb (p := 64) (i := 26) ch_cX12_alike_64 rfl) (rdb (p := 64) (i := 27) ch_cX12_alike_64 rfl) (by decide +kernel)
theorem dX12_alike_92 : decode cX12_alike 92 = .ok (.irem, 1) := do_112 (rdb (p := 64) (i := 28) ch_cX12_alike_64 rfl)
theorem dX12_alike_93 : decode cX12_alike 93 = .ok (.iload 4, 2) := do_21 (rdb (p := 64) (i := 29) ch_cX12_alike_64 rfl) (rdb (p := 64) (i := 30) ch_cX12_alike_64 rfl)
theorem dX12_alike_95 : decode cX12_alike 95 = .ok (.iload_n 3, 1) := do_29 (rdb (p := 64) (i := 31) ch_cX12_alike_64 rfl)
theorem ch_cX12_alike_96 : (cX12_alike.data.toList.drop 96).take 36 = [182, 0, 249, 153, 0, 7, 4, 167, 0, 4, 3, 54, 8, 21, 6, 21, 8, 153, 0, 10, 4, 21, 7, 120, 167, 0, 4, 3, 128, 54, 6, 132, 7, 1, 167, 255] := by decide +kernel
theorem dX12_alike_96 : decode cX12_alike 96 = .ok (.invokevirtual 249, 3) := do_182 (rdb (p := 96) (i := 0) ch_cX12_alike_96 rfl) (rdb (p := 96) (i := 1) ch_cX12_alike_96 rfl) (rdb (p := 96) (i := 2) ch_cX12_alike_96 rfl) rfl
theorem dX12_alike_99 : decode cX12_alike 99 = .ok (.ifCond .eq 7, 3) := do_153 (rdb (p := 96) (i := 3) ch_cX12_alike_96 rfl) (rdb (p := 96) (i := 4) ch_cX12_alike_96 rfl) (rdb (p := 96) (i := 5) ch_cX12_alike_96 rfl) (by decide +kernel)
theorem dX12_alike_102 : decode cX12_alike 102 = .ok (.iconst 1, 1) := do_4 (rdb (p := 96) (i := 6) ch_cX12_alike_96 rfl)
theorem dX12_alike_103 : decode cX12_alike 103 = .ok (.goto 4, 3) := do_167 (rdb (p := 96) (i := 7) ch_cX12_alike_96 rfl) (rdb (p := 96) (i := 8) ch_cX12_alike_96 rfl) (rdb (p := 96) (i := 9) ch_cX12_alike_96 rfl) (by decide +kernel)
theorem dX12_alike_106 : decode cX12_alike 106 = .ok (.iconst 0, 1) := do_3 (rdb (p := 96) (i := 10) ch_cX12_alike_96 rfl)
theorem dX12_alike_107 : decode cX12_alike 107 = .ok (.istore 8, 2) := do_54 (rdb (p := 96) (i := 11) ch_cX12_alike_96 rfl) (rdb (p := 96) (i := 12) ch_cX12_alike_96 rfl)
theorem dX12_alike_109 : decode cX12_alike 109 = .ok (.iload 6, 2) := do_21 (rdb (p := 96) (i := 13) ch_cX12_alike_96 rfl) (rdb (p := 96) (i := 14) ch_cX12_alike_96 rfl)
theorem dX12_alike_111 : decode cX12_alike 111 = .ok (.iload 8, 2) := do_21 (rdb (p := 96) (i := 15) ch_cX12_alike_96 rfl) (rdb (p := 96) (i := 16) ch_cX12_alike_96 rfl)
theorem dX12_alike_113 : decode cX12_alike 113 = .ok (.ifCond .eq 10, 3) := do_153 (rdb (p := 96) (i := 17) ch_cX12_alike_96 rfl) (rdb (p := 96) (i := 18) ch_cX12_alike_96 rfl) (rdb (p := 96) (i := 19) ch_cX12_alike_96 rfl) (by decide +kernel)
theorem dX12_alike_116 : decode cX12_alike 116 = .ok (.iconst 1, 1) := do_4 (rdb (p := 96) (i := 20) ch_cX12_alike_96 rfl)
theorem dX12_alike_117 : decode cX12_alike 117 = .ok (.iload 7, 2) := do_21 (rdb (p := 96) (i := 21) ch_cX12_alike_96 rfl) (rdb (p := 96) (i := 22) ch_cX12_alike_96 rfl)
theorem dX12_alike_119 : decode cX12_alike 119 = .ok (.ishl, 1) := do_120 (rdb (p := 96) (i := 23) ch_cX12_alike_96 rfl)
theorem dX12_alike_120 : decode cX12_alike 120 = .ok (.goto 4, 3) := do_167 (rdb (p := 96) (i := 24) ch_cX12_alike_96 rfl) (rdb (p := 96) (i := 25) ch_cX12_alike_96 rfl) (rdb (p := 96) (i := 26) ch_cX12_alike_96 rfl) (by decide +kernel)
theorem dX12_alike_123 : decode cX12_alike 123 = .ok (.iconst 0, 1) := do_3 (rdb (p := 96) (i := 27) ch_cX12_alike_96 rfl)
theorem dX12_alike_124 : decode cX12_alike 124 = .ok (.ior, 1) := do_128 (rdb (p := 96) (i := 28) ch_cX12_alike_96 rfl)
theorem dX12_alike_125 : decode cX12_alike 125 = .ok (.istore 6, 2) := do_54 (rdb (p := 96) (i := 29) ch_cX12_alike_96 rfl) (rdb (p := 96) (i := 30) ch_cX12_alike_96 rfl)
theorem dX12_alike_127 : decode cX12_alike 127 = .ok (.iinc 7 1, 3) := do_132 (rdb (p := 96) (i := 31) ch_cX12_alike_96 rfl) (rdb (p := 96) (i := 32) ch_cX12_alike_96 rfl) (rdb (p := 96) (i := 33) ch_cX12_alike_96 rfl) (by decide +kernel)
theorem ch_cX12_alike_128 : (cX12_alike.data.toList.drop 128).take 36 = [7, 1, 167, 255, 177, 21, 6, 172] := by decide +kernel
theorem dX12_alike_130 : decode cX12_alike 130 = .ok (.goto (-79), 3) := do_167 (rdb (p := 128) (i := 2) ch_cX12_alike_128 rfl) (rdb (p := 128) (i := 3) ch_cX12_alike_128 rfl) (rdb (p := 128) (i := 4) ch_cX12_alike_128 rfl) (by decide +kernel)
theorem dX12_alike_133 : decode cX12_alike 133 = .ok (.iload 6, 2) := do_21 (rdb (p := 128) (i := 5) ch_cX12_alike_128 rfl) (rdb (p := 128) (i := 6) ch_cX12_alike_128 rfl)
theorem dX12_alike_135 : decode cX12_alike 135 = .ok (.ireturn, 1) := do_172 (rdb (p := 128) (i := 7) ch_cX12_alike_128 rfl)
theorem ch_cX12_click_0 : (cX12_click.data.toList.drop 0).take 36 = [42, 27, 5, 182, 0, 116, 154, 0, 10, 42, 18, 103, 182, 0, 104, 172, 42, 27, 182, 0, 137, 4, 184, 0, 146, 153, 0, 11, 42, 27, 182, 1, 10, 167, 0, 9] := by decide +kernel
theorem dX12_click_0 : decode cX12_click 0 = .ok (.aload_n 0, 1) := do_42 (rdb (p := 0) (i := 0) ch_cX12_click_0 rfl)
theorem dX12_click_1 : decode cX12_click 1 = .ok (.iload_n 1, 1) := do_27 (rdb (p := 0) (i := 1) ch_cX12_click_0 rfl)
theorem dX12_click_2 : decode cX12_click 2 = .ok (.iconst 2, 1) := do_5 (rdb (p := 0) (i := 2) ch_cX12_click_0 rfl)
theorem dX12_click_3 : decode cX12_click 3 = .ok (.invokevirtual 116, 3) := do_182 (rdb (p := 0) (i := 3) ch_cX12_click_0 rfl) (rdb (p := 0) (i := 4) ch_cX12_click_0 rfl) (rdb (p := 0) (i := 5) ch_cX12_click_0 rfl) rfl
theorem dX12_click_6 : decode cX12_click 6 = .ok (.ifCond .ne 10, 3) := do_154 (rdb (p := 0) (i := 6) ch_cX12_click_0 rfl) (rdb (p := 0) (i := 7) ch_cX12_click_0 rfl) (rdb (p := 0) (i := 8) ch_cX12_click_0 rfl) (by decide +kernel)
theorem dX12_click_9 : decode cX12_click 9 = .ok (.aload_n 0, 1) := do_42 (rdb (p := 0) (i := 9) ch_cX12_click_0 rfl)
theorem dX12_click_10 : decode cX12_click 10 = .ok (.ldc 103, 2) := do_18 (rdb (p := 0) (i := 10) ch_cX12_click_0 rfl) (rdb (p := 0) (i := 11) ch_cX12_click_0 rfl)
theorem dX12_click_12 : decode cX12_click 12 = .ok (.invokevirtual 104, 3) := do_182 (rdb (p := 0) (i := 12) ch_cX12_click_0 rfl) (rdb (p := 0) (i := 13) ch_cX12_click_0 rfl) (rdb (p := 0) (i := 14) ch_cX12_click_0 rfl) rfl
theorem dX12_click_15 : decode cX12_click 15 = .ok (.ireturn, 1) := do_172 (rdb (p := 0) (i := 15) ch_cX12_click_0 rfl)
theorem dX12_click_16 : decode cX12_click 16 = .ok (.aload_n 0, 1) := do_42 (rdb (p := 0) (i := 16) ch_cX12_click_0 rfl)
theorem dX12_click_17 : decode cX12_click 17 = .ok (.iload_n 1, 1) := do_27 (rdb (p := 0) (i := 17) ch_cX12_click_0 rfl)
theorem dX12_click_18 : decode cX12_click 18 = .ok (.invokevirtual 137, 3) := do_182 (rdb (p := 0) (i := 18) ch_cX12_click_0 rfl) (rdb (p := 0) (i := 19) ch_cX12_click_0 rfl) (rdb (p := 0) (i := 20) ch_cX12_click_0 rfl) rfl
theorem dX12_click_21 : decode cX12_click 21 = .ok (.iconst 1, 1) := do_4 (rdb (p := 0) (i := 21) ch_cX12_click_0 rfl)
theorem dX12_click_22 : decode cX12_click 22 = .ok (.invokestatic 146, 3) := do_184 (rdb (p := 0) (i := 22) ch_cX12_click_0 rfl) (rdb (p := 0) (i := 23) ch_cX12_click_0 rfl) (rdb (p := 0) (i := 24) ch_cX12_click_0 rfl) rfl
theorem dX12_click_25 : decode cX12_click 25 = .ok (.ifCond .eq 11, 3) := do_153 (rdb (p := 0) (i := 25) ch_cX12_click_0 rfl) (rdb (p := 0) (i := 26) ch_cX12_click_0 rfl) (rdb (p := 0) (i := 27) ch_cX12_click_0 rfl) (by decide +kernel)
theorem dX12_click_28 : decode cX12_click 28 = .ok (.aload_n 0, 1) := do_42 (rdb (p := 0) (i := 28) ch_cX12_click_0 rfl)
theorem dX12_click_29 : decode cX12_click 29 = .ok (.iload_n 1, 1) := do_27 (rdb (p := 0) (i := 29) ch_cX12_click_0 rfl)
theorem dX12_click_30 : decode cX12_click 30 = .ok (.invokevirtual 266, 3) := do_182 (rdb (p := 0) (i := 30) ch_cX12_click_0 rfl) (rdb (p := 0) (i := 31) ch_cX12_click_0 rfl) (rdb (p := 0) (i := 32) ch_cX12_click_0 rfl) rfl
theorem ch_cX12_click_32 : (cX12_click.data.toList.drop 32).take 36 = [10, 167, 0, 9, 42, 18, 123, 182, 0, 104, 172] := by decide +kernel
theorem dX12_click_33 : decode cX12_click 33 = .ok (.goto 9, 3) := do_167 (rdb (p := 32) (i := 1) ch_cX12_click_32 rfl) (rdb (p := 32) (i := 2) ch_cX12_click_32 rfl) (rdb (p := 32) (i := 3) ch_cX12_click_32 rfl) (by decide +kernel)
theorem dX12_click_36 : decode cX12_click 36 = .ok (.aload_n 0, 1) := do_42 (rdb (p := 32) (i := 4) ch_cX12_click_32 rfl)
theorem dX12_click_37 : decode cX12_click 37 = .ok (.ldc 123, 2) := do_18 (rdb (p := 32) (i := 5) ch_cX12_click_32 rfl) (rdb (p := 32) (i := 6) ch_cX12_click_32 rfl)
theorem dX12_click_39 : decode cX12_click 39 = .ok (.invokevirtual 104, 3) := do_182 (rdb (p := 32) (i := 7) ch_cX12_click_32 rfl) (rdb (p := 32) (i := 8) ch_cX12_click_32 rfl) (rdb (p := 32) (i := 9) ch_cX12_click_32 rfl) rfl
theorem dX12_click_42 : decode cX12_click 42 = .ok (.ireturn, 1) := do_172 (rdb (p := 32) (i := 10) ch_cX12_click_32 rfl)
theorem ch_cX12_clicks_0 : (cX12_clicks.data.toList.drop 0).take 36 = [42, 180, 0, 9, 42, 27, 182, 0, 93, 4, 96, 46, 61, 3, 62, 42, 180, 0, 9, 42, 27, 182, 0, 93, 16, 8, 96, 92, 46, 4, 96, 79, 3, 54, 4, 21] := by decide +kernel
theorem dX12_clicks_0 : decode cX12_clicks 0 = .ok (.aload_n 0, 1) := do_42 (rdb (p := 0) (i := 0) ch_cX12_clicks_0 rfl)
theorem dX12_clicks_1 : decode cX12_clicks 1 = .ok (.getfield 9, 3) := do_180 (rdb (p := 0) (i := 1) ch_cX12_clicks_0 rfl) (rdb (p := 0) (i := 2) ch_cX12_clicks_0 rfl) (rdb (p := 0) (i := 3) ch_cX12_clicks_0 rfl) rfl
theorem dX12_clicks_4 : decode cX12_clicks 4 = .ok (.aload_n 0, 1) := do_42 (rdb (p := 0) (i := 4) ch_cX12_clicks_0 rfl)
theorem dX12_clicks_5 : decode cX12_clicks 5 = .ok (.iload_n 1, 1) := do_27 (rdb (p := 0) (i := 5) ch_cX12_clicks_0 rfl)
theorem dX12_clicks_6 : decode cX12_clicks 6 = .ok (.invokevirtual 93, 3) := do_182 (rdb (p := 0) (i := 6) ch_cX12_clicks_0 rfl) (rdb (p := 0) (i := 7) ch_cX12_clicks_0 rfl) (rdb (p := 0) (i := 8) ch_cX12_clicks_0 rfl) rfl
theorem dX12_clicks_9 : decode cX12_clicks 9 = .ok (.iconst 1, 1) := do_4 (rdb (p := 0) (i := 9) ch_cX12_clicks_0 rfl)
theorem dX12_clicks_10 : decode cX12_clicks 10 = .ok (.iadd, 1) := do_96 (rdb (p := 0) (i := 10) ch_cX12_clicks_0 rfl)
theorem dX12_clicks_11 : decode cX12_clicks 11 = .ok (.iaload, 1) := do_46 (rdb (p := 0) (i := 11) ch_cX12_clicks_0 rfl)
theorem dX12_clicks_12 : decode cX12_clicks 12 = .ok (.istore_n 2, 1) := do_61 (rdb (p := 0) (i := 12) ch_cX12_clicks_0 rfl)
theorem dX12_clicks_13 : decode cX12_clicks 13 = .ok (.iconst 0, 1) := do_3 (rdb (p := 0) (i := 13) ch_cX12_clicks_0 rfl)
theorem dX12_clicks_14 : decode cX12_clicks 14 = .ok (.istore_n 3, 1) := do_62 (rdb (p := 0) (i := 14) ch_cX12_clicks_0 rfl)
theorem dX12_clicks_15 : decode cX12_clicks 15 = .ok (.aload_n 0, 1) := do_42 (rdb (p := 0) (i := 15) ch_cX12_clicks_0 rfl)
theorem dX12_clicks_16 : decode cX12_clicks 16 = .ok (.getfield 9, 3) := do_180 (rdb (p := 0) (i := 16) ch_cX12_clicks_0 rfl) (rdb (p := 0) (i := 17) ch_cX12_clicks_0 rfl) (rdb (p := 0) (i := 18) ch_cX12_clicks_0 rfl) rfl
theorem dX12_clicks_19 : decode cX12_clicks 19 = .ok (.aload_n 0, 1) := do_42 (rdb (p := 0) (i := 19) ch_cX12_clicks_0 rfl)
theorem dX12_clicks_20 : decode cX12_clicks 20 = .ok (.iload_n 1, 1) := do_27 (rdb (p := 0) (i := 20) ch_cX12_clicks_0 rfl)
theorem dX12_clicks_21 : decode cX12_clicks 21 = .ok (.invokevirtual 93, 3) := do_182 (rdb (p := 0) (i := 21) ch_cX12_clicks_0 rfl) (rdb (p := 0) (i := 22) ch_cX12_clicks_0 rfl) (rdb (p := 0) (i := 23) ch_cX12_clicks_0 rfl) rfl
theorem dX12_clicks_24 : decode cX12_clicks 24 = .ok (.bipush 8, 2) := do_16 (rdb (p := 0) (i := 24) ch_cX12_clicks_0 rfl) (rdb (p := 0) (i := 25) ch_cX12_clicks_0 rfl) (by decide +kernel)
theorem dX12_clicks_26 : decode cX12_clicks 26 = .ok (.iadd, 1) := do_96 (rdb (p := 0) (i := 26) ch_cX12_clicks_0 rfl)
theorem dX12_clicks_27 : decode cX12_clicks 27 = .ok (.dup2, 1) := do_92 (rdb (p := 0) (i := 27) ch_cX12_clicks_0 rfl)
theorem dX12_clicks_28 : decode cX12_clicks 28 = .ok (.iaload, 1) := do_46 (rdb (p := 0) (i := 28) ch_cX12_clicks_0 rfl)
theorem dX12_clicks_29 : decode cX12_clicks 29 = .ok (.iconst 1, 1) := do_4 (rdb (p := 0) (i := 29) ch_cX12_clicks_0 rfl)
theorem dX12_clicks_30 : decode cX12_clicks 30 = .ok (.iadd, 1) := do_96 (rdb (p := 0) (i := 30) ch_cX12_clicks_0 rfl)
theorem dX12_clicks_31 : decode cX12_clicks 31 = .ok (.iastore, 1) := do_79 (rdb (p := 0) (i := 31) ch_cX12_clicks_0 rfl)
theorem ch_cX12_clicks_32 : (cX12_clicks.data.toList.drop 32).take 36 = [3, 54, 4, 21, 4, 16, 8, 162, 0, 81, 42, 27, 28, 21, 4, 182, 1, 0, 54, 5, 4, 54, 6, 21, 6, 21, 5, 162, 0, 28, 42, 42, 27, 42, 28, 21] := by decide +kernel
theorem dX12_clicks_32 : decode cX12_clicks 32 = .ok (.iconst 0, 1) := do_3 (rdb (p := 32) (i := 0) ch_cX12_clicks_32 rfl)
theorem dX12_clicks_33 : decode cX12_clicks 33 = .ok (.istore 4, 2) := do_54 (rdb (p := 32) (i := 1) ch_cX12_clicks_32 rfl) (rdb (p := 32) (i := 2) ch_cX12_clicks_32 rfl)
theorem dX12_clicks_35 : decode cX12_clicks 35 = .ok (.iload 4, 2) := do_21 (rdb (p := 32) (i := 3) ch_cX12_clicks_32 rfl) (rdb (p := 32) (i := 4) ch_cX12_clicks_32 rfl)
theorem dX12_clicks_37 : decode cX12_clicks 37 = .ok (.bipush 8, 2) := do_16 (rdb (p := 32) (i := 5) ch_cX12_clicks_32 rfl) (rdb (p := 32) (i := 6) ch_cX12_clicks_32 rfl) (by decide +kernel)
theorem dX12_clicks_39 : decode cX12_clicks 39 = .ok (.if_icmp .ge 81, 3) := do_162 (rdb (p := 32) (i := 7) ch_cX12_clicks_32 rfl) (rdb (p := 32) (i := 8) ch_cX12_clicks_32 rfl) (rdb (p := 32) (i := 9) ch_cX12_clicks_32 rfl) (by decide +kernel)
theorem dX12_clicks_42 : decode cX12_clicks 42 = .ok (.aload_n 0, 1) := do_42 (rdb (p := 32) (i := 10) ch_cX12_clicks_32 rfl)
theorem dX12_clicks_43 : decode cX12_clicks 43 = .ok (.iload_n 1, 1) := do_27 (rdb (p := 32) (i := 11) ch_cX12_clicks_32 rfl)
theorem dX12_clicks_44 : decode cX12_clicks 44 = .ok (.iload_n 2, 1) := do_28 (rdb (p := 32) (i := 12) ch_cX12_clicks_32 rfl)
theorem dX12_clicks_45 : decode cX12_clicks 45 = .ok (.iload 4, 2) := do_21 (rdb (p := 32) (i := 13) ch_cX12_clicks_32 rfl) (rdb (p := 32) (i := 14) ch_cX12_clicks_32 rfl)
theorem dX12_clicks_47 : decode cX12_clicks 47 = .ok (.invokevirtual 256, 3) := do_182 (rdb (p := 32) (i := 15) ch_cX12_clicks_32 rfl) (rdb (p := 32) (i := 16) ch_cX12_clicks_32 rfl) (rdb (p := 32) (i := 17) ch_cX12_clicks_32 rfl) rfl
theorem dX12_clicks_50 : decode cX12_clicks 50 = .ok (.istore 5, 2) := do_54 (rdb (p := 32) (i := 18) ch_cX12_clicks_32 rfl) (rdb (p := 32) (i := 19) ch_cX12_clicks_32 rfl)
theorem dX12_clicks_52 : decode cX12_clicks 52 = .ok (.iconst 1, 1) := do_4 (rdb (p := 32) (i := 20) ch_cX12_clicks_32 rfl)
theorem dX12_clicks_53 : decode cX12_clicks 53 = .ok (.istore 6, 2) := do_54 (rdb (p := 32) (i := 21) ch_cX12_clicks_32 rfl) (rdb (p := 32) (i := 22) ch_cX12_clicks_32 rfl)
theorem dX12_clicks_55 : decode cX12_clicks 55 = .ok (.iload 6, 2) := do_21 (rdb (p := 32) (i := 23) ch_cX12_clicks_32 rfl) (rdb (p := 32) (i := 24) ch_cX12_clicks_32 rfl)
theorem dX12_clicks_57 : decode cX12_clicks 57 = .ok (.iload 5, 2) := do_21 (rdb (p := 32) (i := 25) ch_cX12_clicks_32 rfl) (rdb (p := 32) (i := 26) ch_cX12_clicks_32 rfl)
theorem dX12_clicks_59 : decode cX12_clicks 59 = .ok (.if_icmp .ge 28, 3) := do_162 (rdb (p := 32) (i := 27) ch_cX12_clicks_32 rfl) (rdb (p := 32) (i := 28) ch_cX12_clicks_32 rfl) (rdb (p := 32) (i := 29) ch_cX12_clicks_32 rfl) (by decide +kernel)
theorem dX12_clicks_62 : decode cX12_clicks 62 = .ok (.aload_n 0, 1) := do_42 (rdb (p := 32) (i := 30) ch_cX12_clicks_32 rfl)
theorem dX12_clicks_63 : decode cX12_clicks 63 = .ok (.aload_n 0, 1) := do_42 (rdb (p := 32) (i := 31) ch_cX12_clicks_32 rfl)
theorem ch_cX12_clicks_64 : (cX12_clicks.data.toList.drop 64).take 36 = [27, 42, 28, 21, 4, 21, 6, 182, 0, 234, 182, 1, 3, 4, 182, 1, 6, 132, 6, 1, 167, 255, 227, 21, 5, 158, 0, 25, 42, 42, 27, 42, 28, 21, 4, 21] := by decide +kernel
theorem dX12_clicks_64 : decode cX12_clicks 64 = .ok (.iload_n 1, 1) := do_27 (rdb (p := 64) (i := 0) ch_cX12_clicks_64 rfl)
theorem dX12_clicks_65 : decode cX12_clicks 65 = .ok (.aload_n 0, 1) := do_42 (rdb (p := 64) (i := 1) ch_cX12_clicks_64 rfl)
theorem dX12_clicks_66 : decode cX12_clicks 66 = .ok (.iload_n 2, 1) := do_28 (rdb (p := 64) (i := 2) ch_cX12_clicks_64 rfl)
theorem dX12_clicks_67 : decode cX12_clicks 67 = .ok (.iload 4, 2) := do_21 (rdb (p := 64) (i := 3) ch_cX12_clicks_64 rfl) (rdb (p := 64) (i := 4) ch_cX12_clicks_64 rfl)
theorem dX12_clicks_69 : decode cX12_clicks 69 = .ok (.iload 6, 2) := do_21 (rdb (p := 64) (i := 5) ch_cX12_clicks_64 rfl) (rdb (p := 64) (i := 6) ch_cX12_clicks_64 rfl)
theorem dX12_clicks_71 : decode cX12_clicks 71 = .ok (.invokevirtual 234, 3) := do_182 (rdb (p := 64) (i := 7) ch_cX12_clicks_64 rfl) (rdb (p := 64) (i := 8) ch_cX12_clicks_64 rfl) (rdb (p := 64) (i := 9) ch_cX12_clicks_64 rfl) rfl
theorem dX12_clicks_74 : decode cX12_clicks 74 = .ok (.invokevirtual 259, 3) := do_182 (rdb (p := 64) (i := 10) ch_cX12_clicks_64 rfl) (rdb (p := 64) (i := 11) ch_cX12_clicks_64 rfl) (rdb (p := 64) (i := 12) ch_cX12_clicks_64 rfl) rfl
theorem dX12_clicks_77 : decode cX12_clicks 77 = .ok (.iconst 1, 1) := do_4 (rdb (p := 64) (i := 13) ch_cX12_clicks_64 rfl)
theorem dX12_clicks_78 : decode cX12_clicks 78 = .ok (.invokevirtual 262, 3) := do_182 (rdb (p := 64) (i := 14) ch_cX12_clicks_64 rfl) (rdb (p := 64) (i := 15) ch_cX12_clicks_64 rfl) (rdb (p := 64) (i := 16) ch_cX12_clicks_64 rfl) rfl
theorem dX12_clicks_81 : decode cX12_clicks 81 = .ok (.iinc 6 1, 3) := do_132 (rdb (p := 64) (i := 17) ch_cX12_clicks_64 rfl) (rdb (p := 64) (i := 18) ch_cX12_clicks_64 rfl) (rdb (p := 64) (i := 19) ch_cX12_clicks_64 rfl) (by decide +kernel)
theorem dX12_clicks_84 : decode cX12_clicks 84 = .ok (.goto (-29), 3) := do_167 (rdb (p := 64) (i := 20) ch_cX12_clicks_64 rfl) (rdb (p := 64) (i := 21) ch_cX12_clicks_64 rfl) (rdb (p := 64) (i := 22) ch_cX12_clicks_64 rfl) (by decide +kernel)
theorem dX12_clicks_87 : decode cX12_clicks 87 = .ok (.iload 5, 2) := do_21 (rdb (p := 64) (i := 23) ch_cX12_clicks_64 rfl) (rdb (p := 64) (i := 24) ch_cX12_clicks_64 rfl)
theorem dX12_clicks_89 : decode cX12_clicks 89 = .ok (.ifCond .le 25, 3) := do_158 (rdb (p := 64) (i := 25) ch_cX12_clicks_64 rfl) (rdb (p := 64) (i := 26) ch_cX12_clicks_64 rfl) (rdb (p := 64) (i := 27) ch_cX12_clicks_64 rfl) (by decide +kernel)
theorem dX12_clicks_92 : decode cX12_clicks 92 = .ok (.aload_n 0, 1) := do_42 (rdb (p := 64) (i := 28) ch_cX12_clicks_64 rfl)
theorem dX12_clicks_93 : decode cX12_clicks 93 = .ok (.aload_n 0, 1) := do_42 (rdb (p := 64) (i := 29) ch_cX12_clicks_64 rfl)
theorem dX12_clicks_94 : decode cX12_clicks 94 = .ok (.iload_n 1, 1) := do_27 (rdb (p := 64) (i := 30) ch_cX12_clicks_64 rfl)
theorem dX12_clicks_95 : decode cX12_clicks 95 = .ok (.aload_n 0, 1) := do_42 (rdb (p := 64) (i := 31) ch_cX12_clicks_64 rfl)
theorem ch_cX12_clicks_96 : (cX12_clicks.data.toList.drop 96).take 36 = [28, 21, 4, 21, 5, 182, 0, 234, 182, 0, 253, 4, 182, 1, 6, 132, 3, 1, 132, 4, 1, 167, 255, 174, 29, 172] := by decide +kernel
theorem dX12_clicks_96 : decode cX12_clicks 96 = .ok (.iload_n 2, 1) := do_28 (rdb (p := 96) (i := 0) ch_cX12_clicks_96 rfl)
theorem dX12_clicks_97 : decode cX12_clicks 97 = .ok (.iload 4, 2) := do_21 (rdb (p := 96) (i := 1) ch_cX12_clicks_96 rfl) (rdb (p := 96) (i := 2) ch_cX12_clicks_96 rfl)
theorem dX12_clicks_99 : decode cX12_clicks 99 = .ok (.iload 5, 2) := do_21 (rdb (p := 96) (i := 3) ch_cX12_clicks_96 rfl) (rdb (p := 96) (i := 4) ch_cX12_clicks_96 rfl)
theorem dX12_clicks_101 : decode cX12_clicks 101 = .ok (.invokevirtual 234, 3) := do_182 (rdb (p := 96) (i := 5) ch_cX12_clicks_96 rfl) (rdb (p := 96) (i := 6) ch_cX12_clicks_96 rfl) (rdb (p := 96) (i := 7) ch_cX12_clicks_96 rfl) rfl
theorem dX12_clicks_104 : decode cX12_clicks 104 = .ok (.invokevirtual 253, 3) := do_182 (rdb (p := 96) (i := 8) ch_cX12_clicks_96 rfl) (rdb (p := 96) (i := 9) ch_cX12_clicks_96 rfl) (rdb (p := 96) (i := 10) ch_cX12_clicks_96 rfl) rfl
theorem dX12_clicks_107 : decode cX12_clicks 107 = .ok (.iconst 1, 1) := do_4 (rdb (p := 96) (i := 11) ch_cX12_clicks_96 rfl)
theorem dX12_clicks_108 : decode cX12_clicks 108 = .ok (.invokevirtual 262, 3) := do_182 (rdb (p := 96) (i := 12) ch_cX12_clicks_96 rfl) (rdb (p := 96) (i := 13) ch_cX12_clicks_96 rfl) (rdb (p := 96) (i := 14) ch_cX12_clicks_96 rfl) rfl
theorem dX12_clicks_111 : decode cX12_clicks 111 = .ok (.iinc 3 1, 3) := do_132 (rdb (p := 96) (i := 15) ch_cX12_clicks_96 rfl) (rdb (p := 96) (i := 16) ch_cX12_clicks_96 rfl) (rdb (p := 96) (i := 17) ch_cX12_clicks_96 rfl) (by decide +kernel)
theorem dX12_clicks_114 : decode cX12_clicks 114 = .ok (.iinc 4 1, 3) := do_132 (rdb (p := 96) (i := 18) ch_cX12_clicks_96 rfl) (rdb (p := 96) (i := 19) ch_cX12_clicks_96 rfl) (rdb (p := 96) (i := 20) ch_cX12_clicks_96 rfl) (by decide +kernel)
theorem dX12_clicks_117 : decode cX12_clicks 117 = .ok (.goto (-82), 3) := do_167 (rdb (p := 96) (i := 21) ch_cX12_clicks_96 rfl) (rdb (p := 96) (i := 22) ch_cX12_clicks_96 rfl) (rdb (p := 96) (i := 23) ch_cX12_clicks_96 rfl) (by decide +kernel)
theorem dX12_clicks_120 : decode cX12_clicks 120 = .ok (.iload_n 3, 1) := do_29 (rdb (p := 96) (i := 24) ch_cX12_clicks_96 rfl)
theorem dX12_clicks_121 : decode cX12_clicks 121 = .ok (.ireturn, 1) := do_172 (rdb (p := 96) (i := 25) ch_cX12_clicks_96 rfl)
theorem ch_cX12_echo_0 : (cX12_echo.data.toList.drop 0).take 36 = [42, 27, 5, 182, 0, 116, 153, 0, 28, 42, 28, 182, 0, 237, 153, 0, 20, 29, 184, 0, 120, 153, 0, 13, 21, 4, 3, 8, 184, 0, 85, 154, 0, 10, 42, 18] := by decide +kernel
theorem dX12_echo_0 : decode cX12_echo 0 = .ok (.aload_n 0, 1) := do_42 (rdb (p := 0) (i := 0) ch_cX12_echo_0 rfl)
theorem dX12_echo_1 : decode cX12_echo 1 = .ok (.iload_n 1, 1) := do_27 (rdb (p := 0) (i := 1) ch_cX12_echo_0 rfl)
theorem dX12_echo_2 : decode cX12_echo 2 = .ok (.iconst 2, 1) := do_5 (rdb (p := 0) (i := 2) ch_cX12_echo_0 rfl)
theorem dX12_echo_3 : decode cX12_echo 3 = .ok (.invokevirtual 116, 3) := do_182 (rdb (p := 0) (i := 3) ch_cX12_echo_0 rfl) (rdb (p := 0) (i := 4) ch_cX12_echo_0 rfl) (rdb (p := 0) (i := 5) ch_cX12_echo_0 rfl) rfl
theorem dX12_echo_6 : decode cX12_echo 6 = .ok (.ifCond .eq 28, 3) := do_153 (rdb (p := 0) (i := 6) ch_cX12_echo_0 rfl) (rdb (p := 0) (i := 7) ch_cX12_echo_0 rfl) (rdb (p := 0) (i := 8) ch_cX12_echo_0 rfl) (by decide +kernel)
theorem dX12_echo_9 : decode cX12_echo 9 = .ok (.aload_n 0, 1) := do_42 (rdb (p := 0) (i := 9) ch_cX12_echo_0 rfl)
theorem dX12_echo_10 : decode cX12_echo 10 = .ok (.iload_n 2, 1) := do_28 (rdb (p := 0) (i := 10) ch_cX12_echo_0 rfl)
theorem dX12_echo_11 : decode cX12_echo 11 = .ok (.invokevirtual 237, 3) := do_182 (rdb (p := 0) (i := 11) ch_cX12_echo_0 rfl) (rdb (p := 0) (i := 12) ch_cX12_echo_0 rfl) (rdb (p := 0) (i := 13) ch_cX12_echo_0 rfl) rfl
theorem dX12_echo_14 : decode cX12_echo 14 = .ok (.ifCond .eq 20, 3) := do_153 (rdb (p := 0) (i := 14) ch_cX12_echo_0 rfl) (rdb (p := 0) (i := 15) ch_cX12_echo_0 rfl) (rdb (p := 0) (i := 16) ch_cX12_echo_0 rfl) (by decide +kernel)
theorem dX12_echo_17 : decode cX12_echo 17 = .ok (.iload_n 3, 1) := do_29 (rdb (p := 0) (i := 17) ch_cX12_echo_0 rfl)
theorem dX12_echo_18 : decode cX12_echo 18 = .ok (.invokestatic 120, 3) := do_184 (rdb (p := 0) (i := 18) ch_cX12_echo_0 rfl) (rdb (p := 0) (i := 19) ch_cX12_echo_0 rfl) (rdb (p := 0) (i := 20) ch_cX12_echo_0 rfl) rfl
theorem dX12_echo_21 : decode cX12_echo 21 = .ok (.ifCond .eq 13, 3) := do_153 (rdb (p := 0) (i := 21) ch_cX12_echo_0 rfl) (rdb (p := 0) (i := 22) ch_cX12_echo_0 rfl) (rdb (p := 0) (i := 23) ch_cX12_echo_0 rfl) (by decide +kernel)
theorem dX12_echo_24 : decode cX12_echo 24 = .ok (.iload 4, 2) := do_21 (rdb (p := 0) (i := 24) ch_cX12_echo_0 rfl) (rdb (p := 0) (i := 25) ch_cX12_echo_0 rfl)
theorem dX12_echo_26 : decode cX12_echo 26 = .ok (.iconst 0, 1) := do_3 (rdb (p := 0) (i := 26) ch_cX12_echo_0 rfl)
theorem dX12_echo_27 : decode cX12_echo 27 = .ok (.iconst 5, 1) := do_8 (rdb (p := 0) (i := 27) ch_cX12_echo_0 rfl)
theorem dX12_echo_28 : decode cX12_echo 28 = .ok (.invokestatic 85, 3) := do_184 (rdb (p := 0) (i := 28) ch_cX12_echo_0 rfl) (rdb (p := 0) (i := 29) ch_cX12_echo_0 rfl) (rdb (p := 0) (i := 30) ch_cX12_echo_0 rfl) rfl
theorem dX12_echo_31 : decode cX12_echo 31 = .ok (.ifCond .ne 10, 3) := do_154 (rdb (p := 0) (i := 31) ch_cX12_echo_0 rfl) (rdb (p := 0) (i := 32) ch_cX12_echo_0 rfl) (rdb (p := 0) (i := 33) ch_cX12_echo_0 rfl) (by decide +kernel)
theorem ch_cX12_echo_32 : (cX12_echo.data.toList.drop 32).take 36 = [0, 10, 42, 18, 103, 182, 0, 104, 172, 42, 180, 0, 9, 42, 27, 182, 0, 93, 4, 96, 46, 54, 5, 42, 21, 5, 29, 42, 27, 182, 0, 140, 182, 0, 240, 54] := by decide +kernel
theorem dX12_echo_34 : decode cX12_echo 34 = .ok (.aload_n 0, 1) := do_42 (rdb (p := 32) (i := 2) ch_cX12_echo_32 rfl)
theorem dX12_echo_35 : decode cX12_echo 35 = .ok (.ldc 103, 2) := do_18 (rdb (p := 32) (i := 3) ch_cX12_echo_32 rfl) (rdb (p := 32) (i := 4) ch_cX12_echo_32 rfl)
theorem dX12_echo_37 : decode cX12_echo 37 = .ok (.invokevirtual 104, 3) := do_182 (rdb (p := 32) (i := 5) ch_cX12_echo_32 rfl) (rdb (p := 32) (i := 6) ch_cX12_echo_32 rfl) (rdb (p := 32) (i := 7) ch_cX12_echo_32 rfl) rfl
theorem dX12_echo_40 : decode cX12_echo 40 = .ok (.ireturn, 1) := do_172 (rdb (p := 32) (i := 8) ch_cX12_echo_32 rfl)
theorem dX12_echo_41 : decode cX12_echo 41 = .ok (.aload_n 0, 1) := do_42 (rdb (p := 32) (i := 9) ch_cX12_echo_32 rfl)
theorem dX12_echo_42 : decode cX12_echo 42 = .ok (.getfield 9, 3) := do_180 (rdb (p := 32) (i := 10) ch_cX12_echo_32 rfl) (rdb (p := 32) (i := 11) ch_cX12_echo_32 rfl) (rdb (p := 32) (i := 12) ch_cX12_echo_32 rfl) rfl
theorem dX12_echo_45 : decode cX12_echo 45 = .ok (.aload_n 0, 1) := do_42 (rdb (p := 32) (i := 13) ch_cX12_echo_32 rfl)
theorem dX12_echo_46 : decode cX12_echo 46 = .ok (.iload_n 1, 1) := do_27 (rdb (p := 32) (i := 14) ch_cX12_echo_32 rfl)
theorem dX12_echo_47 : decode cX12_echo 47 = .ok (.invokevirtual 93, 3) := do_182 (rdb (p := 32) (i := 15) ch_cX12_echo_32 rfl) (rdb (p := 32) (i := 16) ch_cX12_echo_32 rfl) (rdb (p := 32) (i := 17) ch_cX12_echo_32 rfl) rfl
theorem dX12_echo_50 : decode cX12_echo 50 = .ok (.iconst 1, 1) := do_4 (rdb (p := 32) (i := 18) ch_cX12_echo_32 rfl)
theorem dX12_echo_51 : decode cX12_echo 51 = .ok (.iadd, 1) := do_96 (rdb (p := 32) (i := 19) ch_cX12_echo_32 rfl)
theorem dX12_echo_52 : decode cX12_echo 52 = .ok (.iaload, 1) := do_46 (rdb (p := 32) (i := 20) ch_cX12_echo_32 rfl)
theorem dX12_echo_53 : decode cX12_echo 53 = .ok (.istore 5, 2) := do_54 (rdb (p := 32) (i := 21) ch_cX12_echo_32 rfl) (rdb (p := 32) (i := 22) ch_cX12_echo_32 rfl)
theorem dX12_echo_55 : decode cX12_echo 55 = .ok (.aload_n 0, 1) := do_42 (rdb (p := 32) (i := 23) ch_cX12_echo_32 rfl)
theorem dX12_echo_56 : decode cX12_echo 56 = .ok (.iload 5, 2) := do_21 (rdb (p := 32) (i := 24) ch_cX12_echo_32 rfl) (rdb (p := 32) (i := 25) ch_cX12_echo_32 rfl)
theorem dX12_echo_58 : decode cX12_echo 58 = .ok (.iload_n 3, 1) := do_29 (rdb (p := 32) (i := 26) ch_cX12_echo_32 rfl)
theorem dX12_echo_59 : decode cX12_echo 59 = .ok (.aload_n 0, 1) := do_42 (rdb (p := 32) (i := 27) ch_cX12_echo_32 rfl)
theorem dX12_echo_60 : decode cX12_echo 60 = .ok (.iload_n 1, 1) := do_27 (rdb (p := 32) (i := 28) ch_cX12_echo_32 rfl)
theorem dX12_echo_61 : decode cX12_echo 61 = .ok (.invokevirtual 140, 3) := do_182 (rdb (p := 32) (i := 29) ch_cX12_echo_32 rfl) (rdb (p := 32) (i := 30) ch_cX12_echo_32 rfl) (rdb (p := 32) (i := 31) ch_cX12_echo_32 rfl) rfl
theorem ch_cX12_echo_64 : (cX12_echo.data.toList.drop 64).take 36 = [182, 0, 240, 54, 6, 21, 6, 154, 0, 10, 42, 18, 130, 182, 0, 104, 172, 42, 42, 21, 5, 29, 21, 6, 182, 0, 234, 182, 0, 243, 54, 7, 42, 21, 7, 28] := by decide +kernel
theorem dX12_echo_64 : decode cX12_echo 64 = .ok (.invokevirtual 240, 3) := do_182 (rdb (p := 64) (i := 0) ch_cX12_echo_64 rfl) (rdb (p := 64) (i := 1) ch_cX12_echo_64 rfl) (rdb (p := 64) (i := 2) ch_cX12_echo_64 rfl) rfl
theorem dX12_echo_67 : decode cX12_echo 67 = .ok (.istore 6, 2) := do_54 (rdb (p := 64) (i := 3) ch_cX12_echo_64 rfl) (rdb (p := 64) (i := 4) ch_cX12_echo_64 rfl)
theorem dX12_echo_69 : decode cX12_echo 69 = .ok (.iload 6, 2) := do_21 (rdb (p := 64) (i := 5) ch_cX12_echo_64 rfl) (rdb (p := 64) (i := 6) ch_cX12_echo_64 rfl)
theorem dX12_echo_71 : decode cX12_echo 71 = .ok (.ifCond .ne 10, 3) := do_154 (rdb (p := 64) (i := 7) ch_cX12_echo_64 rfl) (rdb (p := 64) (i := 8) ch_cX12_echo_64 rfl) (rdb (p := 64) (i := 9) ch_cX12_echo_64 rfl) (by decide +kernel)
theorem dX12_echo_74 : decode cX12_echo 74 = .ok (.aload_n 0, 1) := do_42 (rdb (p := 64) (i := 10) ch_cX12_echo_64 rfl)
theorem dX12_echo_75 : decode cX12_echo 75 = .ok (.ldc 130, 2) := do_18 (rdb (p := 64) (i := 11) ch_cX12_echo_64 rfl) (rdb (p := 64) (i := 12) ch_cX12_echo_64 rfl)
theorem dX12_echo_77 : decode cX12_echo 77 = .ok (.invokevirtual 104, 3) := do_182 (rdb (p := 64) (i := 13) ch_cX12_echo_64 rfl) (rdb (p := 64) (i := 14) ch_cX12_echo_64 rfl) (rdb (p := 64) (i := 15) ch_cX12_echo_64 rfl) rfl
theorem dX12_echo_80 : decode cX12_echo 80 = .ok (.ireturn, 1) := do_172 (rdb (p := 64) (i := 16) ch_cX12_echo_64 rfl)
theorem dX12_echo_81 : decode cX12_echo 81 = .ok (.aload_n 0, 1) := do_42 (rdb (p := 64) (i := 17) ch_cX12_echo_64 rfl)
theorem dX12_echo_82 : decode cX12_echo 82 = .ok (.aload_n 0, 1) := do_42 (rdb (p := 64) (i := 18) ch_cX12_echo_64 rfl)
theorem dX12_echo_83 : decode cX12_echo 83 = .ok (.iload 5, 2) := do_21 (rdb (p := 64) (i := 19) ch_cX12_echo_64 rfl) (rdb (p := 64) (i := 20) ch_cX12_echo_64 rfl)
theorem dX12_echo_85 : decode cX12_echo 85 = .ok (.iload_n 3, 1) := do_29 (rdb (p := 64) (i := 21) ch_cX12_echo_64 rfl)
theorem dX12_echo_86 : decode cX12_echo 86 = .ok (.iload 6, 2) := do_21 (rdb (p := 64) (i := 22) ch_cX12_echo_64 rfl) (rdb (p := 64) (i := 23) ch_cX12_echo_64 rfl)
theorem dX12_echo_88 : decode cX12_echo 88 = .ok (.invokevirtual 234, 3) := do_182 (rdb (p := 64) (i := 24) ch_cX12_echo_64 rfl) (rdb (p := 64) (i := 25) ch_cX12_echo_64 rfl) (rdb (p := 64) (i := 26) ch_cX12_echo_64 rfl) rfl
theorem dX12_echo_91 : decode cX12_echo 91 = .ok (.invokevirtual 243, 3) := do_182 (rdb (p := 64) (i := 27) ch_cX12_echo_64 rfl) (rdb (p := 64) (i := 28) ch_cX12_echo_64 rfl) (rdb (p := 64) (i := 29) ch_cX12_echo_64 rfl) rfl
theorem dX12_echo_94 : decode cX12_echo 94 = .ok (.istore 7, 2) := do_54 (rdb (p := 64) (i := 30) ch_cX12_echo_64 rfl) (rdb (p := 64) (i := 31) ch_cX12_echo_64 rfl)
theorem ch_cX12_echo_96 : (cX12_echo.data.toList.drop 96).take 36 = [42, 21, 7, 28, 16, 100, 108, 28, 16, 100, 112, 21, 6, 182, 0, 230, 54, 8, 42, 180, 0, 9, 42, 27, 182, 0, 93, 5, 96, 46, 54, 9, 21, 4, 170, 0] := by decide +kernel
theorem dX12_echo_96 : decode cX12_echo 96 = .ok (.aload_n 0, 1) := do_42 (rdb (p := 96) (i := 0) ch_cX12_echo_96 rfl)
theorem dX12_echo_97 : decode cX12_echo 97 = .ok (.iload 7, 2) := do_21 (rdb (p := 96) (i := 1) ch_cX12_echo_96 rfl) (rdb (p := 96) (i := 2) ch_cX12_echo_96 rfl)
theorem dX12_echo_99 : decode cX12_echo 99 = .ok (.iload_n 2, 1) := do_28 (rdb (p := 96) (i := 3) ch_cX12_echo_96 rfl)
theorem dX12_echo_100 : decode cX12_echo 100 = .ok (.bipush 100, 2) := do_16 (rdb (p := 96) (i := 4) ch_cX12_echo_96 rfl) (rdb (p := 96) (i := 5) ch_cX12_echo_96 rfl) (by decide +kernel)
theorem dX12_echo_102 : decode cX12_echo 102 = .ok (.idiv, 1) := do_108 (rdb (p := 96) (i := 6) ch_cX12_echo_96 rfl)
theorem dX12_echo_103 : decode cX12_echo 103 = .ok (.iload_n 2, 1) := do_28 (rdb (p := 96) (i := 7) ch_cX12_echo_96 rfl)
theorem dX12_echo_104 : decode cX12_echo 104 = .ok (.bipush 100, 2) := do_16 (rdb (p := 96) (i := 8) ch_cX12_echo_96 rfl) (rdb (p := 96) (i := 9) ch_cX12_echo_96 rfl) (by decide +kernel)
theorem dX12_echo_106 : decode cX12_echo 106 = .ok (.irem, 1) := do_112 (rdb (p := 96) (i := 10) ch_cX12_echo_96 rfl)
theorem dX12_echo_107 : decode cX12_echo 107 = .ok (.iload 6, 2) := do_21 (rdb (p := 96) (i := 11) ch_cX12_echo_96 rfl) (rdb (p := 96) (i := 12) ch_cX12_echo_96 rfl)
theorem dX12_echo_109 : decode cX12_echo 109 = .ok (.invokevirtual 230, 3) := do_182 (rdb (p := 96) (i := 13) ch_cX12_echo_96 rfl) (rdb (p := 96) (i := 14) ch_cX12_echo_96 rfl) (rdb (p := 96) (i := 15) ch_cX12_echo_96 rfl) rfl
theorem dX12_echo_112 : decode cX12_echo 112 = .ok (.istore 8, 2) := do_54 (rdb (p := 96) (i := 16) ch_cX12_echo_96 rfl) (rdb (p := 96) (i := 17) ch_cX12_echo_96 rfl)
theorem dX12_echo_114 : decode cX12_echo 114 = .ok (.aload_n 0, 1) := do_42 (rdb (p := 96) (i := 18) ch_cX12_echo_96 rfl)
theorem dX12_echo_115 : decode cX12_echo 115 = .ok (.getfield 9, 3) := do_180 (rdb (p := 96) (i := 19) ch_cX12_echo_96 rfl) (rdb (p := 96) (i := 20) ch_cX12_echo_96 rfl) (rdb (p := 96) (i := 21) ch_cX12_echo_96 rfl) rfl
theorem dX12_echo_118 : decode cX12_echo 118 = .ok (.aload_n 0, 1) := do_42 (rdb (p := 96) (i := 22) ch_cX12_echo_96 rfl)
theorem dX12_echo_119 : decode cX12_echo 119 = .ok (.iload_n 1, 1) := do_27 (rdb (p := 96) (i := 23) ch_cX12_echo_96 rfl)
theorem dX12_echo_120 : decode cX12_echo 120 = .ok (.invokevirtual 93, 3) := do_182 (rdb (p := 96) (i := 24) ch_cX12_echo_96 rfl) (rdb (p := 96) (i := 25) ch_cX12_echo_96 rfl) (rdb (p := 96) (i := 26) ch_cX12_echo_96 rfl) rfl
theorem dX12_echo_123 : decode cX12_echo 123 = .ok (.iconst 2, 1) := do_5 (rdb (p := 96) (i := 27) ch_cX12_echo_96 rfl)
theorem dX12_echo_124 : decode cX12_echo 124 = .ok (.iadd, 1) := do_96 (rdb (p := 96) (i := 28) ch_cX12_echo_96 rfl)
theorem dX12_echo_125 : decode cX12_echo 125 = .ok (.iaload, 1) := do_46 (rdb (p := 96) (i := 29) ch_cX12_echo_96 rfl)
theorem dX12_echo_126 : decode cX12_echo 126 = .ok (.istore 9, 2) := do_54 (rdb (p := 96) (i := 30) ch_cX12_echo_96 rfl) (rdb (p := 96) (i := 31) ch_cX12_echo_96 rfl)
theorem ch_cX12_echo_128 : (cX12_echo.data.toList.drop 128).take 36 = [21, 4, 170, 0, 0, 0, 0, 67, 0, 0, 0, 0, 0, 0, 0, 4, 0, 0, 0, 34, 0, 0, 0, 37, 0, 0, 0, 44, 0, 0, 0, 47, 0, 0, 0, 57] := by decide +kernel
theorem dX12_echo_128 : decode cX12_echo 128 = .ok (.iload 4, 2) := do_21 (rdb (p := 128) (i := 0) ch_cX12_echo_128 rfl) (rdb (p := 128) (i := 1) ch_cX12_echo_128 rfl)
theorem dX12_echo_130 : decode cX12_echo 130 = .ok (.tableswitch 67 0 4 #[34, 37, 44, 47, 57], 34) := by decide +kernel
theorem ch_cX12_echo_160 : (cX12_echo.data.toList.drop 160).take 36 = [0, 0, 0, 57, 21, 6, 172, 29, 21, 6, 184, 0, 227, 172, 21, 8, 172, 21, 8, 29, 21, 9, 4, 184, 0, 246, 172, 21, 8, 29, 21, 9, 8, 184, 0, 246] := by decide +kernel
theorem dX12_echo_164 : decode cX12_echo 164 = .ok (.iload 6, 2) := do_21 (rdb (p := 160) (i := 4) ch_cX12_echo_160 rfl) (rdb (p := 160) (i := 5) ch_cX12_echo_160 rfl)
theorem dX12_echo_166 : decode cX12_echo 166 = .ok (.ireturn, 1) := do_172 (rdb (p := 160) (i := 6) ch_cX12_echo_160 rfl)
theorem dX12_echo_167 : decode cX12_echo 167 = .ok (.iload_n 3, 1) := do_29 (rdb (p := 160) (i := 7) ch_cX12_echo_160 rfl)
theorem dX12_echo_168 : decode cX12_echo 168 = .ok (.iload 6, 2) := do_21 (rdb (p := 160) (i := 8) ch_cX12_echo_160 rfl) (rdb (p := 160) (i := 9) ch_cX12_echo_160 rfl)
theorem dX12_echo_170 : decode cX12_echo 170 = .ok (.invokestatic 227, 3) := do_184 (rdb (p := 160) (i := 10) ch_cX12_echo_160 rfl) (rdb (p := 160) (i := 11) ch_cX12_echo_160 rfl) (rdb (p := 160) (i := 12) ch_cX12_echo_160 rfl) rfl
theorem dX12_echo_173 : decode cX12_echo 173 = .ok (.ireturn, 1) := do_172 (rdb (p := 160) (i := 13) ch_cX12_echo_160 rfl)
theorem dX12_echo_174 : decode cX12_echo 174 = .ok (.iload 8, 2) := do_21 (rdb (p := 160) (i := 14) ch_cX12_echo_160 rfl) (rdb (p := 160) (i := 15) ch_cX12_echo_160 rfl)
theorem dX12_echo_176 : decode cX12_echo 176 = .ok (.ireturn, 1) := do_172 (rdb (p := 160) (i := 16) ch_cX12_echo_160 rfl)
theorem dX12_echo_177 : decode cX12_echo 177 = .ok (.iload 8, 2) := do_21 (rdb (p := 160) (i := 17) ch_cX12_echo_160 rfl) (rdb (p := 160) (i := 18) ch_cX12_echo_160 rfl)
theorem dX12_echo_179 : decode cX12_echo 179 = .ok (.iload_n 3, 1) := do_29 (rdb (p := 160) (i := 19) ch_cX12_echo_160 rfl)
theorem dX12_echo_180 : decode cX12_echo 180 = .ok (.iload 9, 2) := do_21 (rdb (p := 160) (i := 20) ch_cX12_echo_160 rfl) (rdb (p := 160) (i := 21) ch_cX12_echo_160 rfl)
theorem dX12_echo_182 : decode cX12_echo 182 = .ok (.iconst 1, 1) := do_4 (rdb (p := 160) (i := 22) ch_cX12_echo_160 rfl)
theorem dX12_echo_183 : decode cX12_echo 183 = .ok (.invokestatic 246, 3) := do_184 (rdb (p := 160) (i := 23) ch_cX12_echo_160 rfl) (rdb (p := 160) (i := 24) ch_cX12_echo_160 rfl) (rdb (p := 160) (i := 25) ch_cX12_echo_160 rfl) rfl
theorem dX12_echo_186 : decode cX12_echo 186 = .ok (.ireturn, 1) := do_172 (rdb (p := 160) (i := 26) ch_cX12_echo_160 rfl)
theorem dX12_echo_187 : decode cX12_echo 187 = .ok (.iload 8, 2) := do_21 (rdb (p := 160) (i := 27) ch_cX12_echo_160 rfl) (rdb (p := 160) (i := 28) ch_cX12_echo_160 rfl)
theorem dX12_echo_189 : decode cX12_echo 189 = .ok (.iload_n 3, 1) := do_29 (rdb (p := 160) (i := 29) ch_cX12_echo_160 rfl)
theorem dX12_echo_190 : decode cX12_echo 190 = .ok (.iload 9, 2) := do_21 (rdb (p := 160) (i := 30) ch_cX12_echo_160 rfl) (rdb (p := 160) (i := 31) ch_cX12_echo_160 rfl)
theorem ch_cX12_echo_192 : (cX12_echo.data.toList.drop 192).take 36 = [8, 184, 0, 246, 172, 42, 42, 27, 182, 0, 143, 21, 7, 28, 16, 100, 108, 28, 16, 100, 112, 29, 21, 6, 182, 0, 249, 153, 0, 7, 4, 167, 0, 4, 3, 172] := by decide +kernel
theorem dX12_echo_192 : decode cX12_echo 192 = .ok (.iconst 5, 1) := do_8 (rdb (p := 192) (i := 0) ch_cX12_echo_192 rfl)
theorem dX12_echo_193 : decode cX12_echo 193 = .ok (.invokestatic 246, 3) := do_184 (rdb (p := 192) (i := 1) ch_cX12_echo_192 rfl) (rdb (p := 192) (i := 2) ch_cX12_echo_192 rfl) (rdb (p := 192) (i := 3) ch_cX12_echo_192 rfl) rfl
theorem dX12_echo_196 : decode cX12_echo 196 = .ok (.ireturn, 1) := do_172 (rdb (p := 192) (i := 4) ch_cX12_echo_192 rfl)
theorem dX12_echo_197 : decode cX12_echo 197 = .ok (.aload_n 0, 1) := do_42 (rdb (p := 192) (i := 5) ch_cX12_echo_192 rfl)
theorem dX12_echo_198 : decode cX12_echo 198 = .ok (.aload_n 0, 1) := do_42 (rdb (p := 192) (i := 6) ch_cX12_echo_192 rfl)
theorem dX12_echo_199 : decode cX12_echo 199 = .ok (.iload_n 1, 1) := do_27 (rdb (p := 192) (i := 7) ch_cX12_echo_192 rfl)
theorem dX12_echo_200 : decode cX12_echo 200 = .ok (.invokevirtual 143, 3) := do_182 (rdb (p := 192) (i := 8) ch_cX12_echo_192 rfl) (rdb (p := 192) (i := 9) ch_cX12_echo_192 rfl) (rdb (p := 192) (i := 10) ch_cX12_echo_192 rfl) rfl
theorem dX12_echo_203 : decode cX12_echo 203 = .ok (.iload 7, 2) := do_21 (rdb (p := 192) (i := 11) ch_cX12_echo_192 rfl) (rdb (p := 192) (i := 12) ch_cX12_echo_192 rfl)
theorem dX12_echo_205 : decode cX12_echo 205 = .ok (.iload_n 2, 1) := do_28 (rdb (p := 192) (i := 13) ch_cX12_echo_192 rfl)
theorem dX12_echo_206 : decode cX12_echo 206 = .ok (.bipush 100, 2) := do_16 (rdb (p := 192) (i := 14) ch_cX12_echo_192 rfl) (rdb (p := 192) (i := 15) ch_cX12_echo_192 rfl) (by decide +kernel)
theorem dX12_echo_208 : decode cX12_echo 208 = .ok (.idiv, 1) := do_108 (rdb (p := 192) (i := 16) ch_cX12_echo_192 rfl)
theorem dX12_echo_209 : decode cX12_echo 209 = .ok (.iload_n 2, 1) := do_28 (rdb (p := 192) (i := 17) ch_cX12_echo_192 rfl)
theorem dX12_echo_210 : decode cX12_echo 210 = .ok (.bipush 100, 2) := do_16 (rdb (p := 192) (i := 18) ch_cX12_echo_192 rfl) (rdb (p := 192) (i := 19) ch_cX12_echo_192 rfl) (by decide +kernel)
theorem dX12_echo_212 : decode cX12_echo 212 = .ok (.irem, 1) := do_112 (rdb (p := 192) (i := 20) ch_cX12_echo_192 rfl)
theorem dX12_echo_213 : decode cX12_echo 213 = .ok (.iload_n 3, 1) := do_29 (rdb (p := 192) (i := 21) ch_cX12_echo_192 rfl)
theorem dX12_echo_214 : decode cX12_echo 214 = .ok (.iload 6, 2) := do_21 (rdb (p := 192) (i := 22) ch_cX12_echo_192 rfl) (rdb (p := 192) (i := 23) ch_cX12_echo_192 rfl)
theorem dX12_echo_216 : decode cX12_echo 216 = .ok (.invokevirtual 249, 3) := do_182 (rdb (p := 192) (i := 24) ch_cX12_echo_192 rfl) (rdb (p := 192) (i := 25) ch_cX12_echo_192 rfl) (rdb (p := 192) (i := 26) ch_cX12_echo_192 rfl) rfl
theorem dX12_echo_219 : decode cX12_echo 219 = .ok (.ifCond .eq 7, 3) := do_153 (rdb (p := 192) (i := 27) ch_cX12_echo_192 rfl) (rdb (p := 192) (i := 28) ch_cX12_echo_192 rfl) (rdb (p := 192) (i := 29) ch_cX12_echo_192 rfl) (by decide +kernel)
theorem dX12_echo_222 : decode cX12_echo 222 = .ok (.iconst 1, 1) := do_4 (rdb (p := 192) (i := 30) ch_cX12_echo_192 rfl)
theorem dX12_echo_223 : decode cX12_echo 223 = .ok (.goto 4, 3) := do_167 (rdb (p := 192) (i := 31) ch_cX12_echo_192 rfl) (rdb (p := 192) (i := 32) ch_cX12_echo_192 rfl) (rdb (p := 192) (i := 33) ch_cX12_echo_192 rfl) (by decide +kernel)
theorem ch_cX12_echo_224 : (cX12_echo.data.toList.drop 224).take 36 = [0, 4, 3, 172] := by decide +kernel
theorem dX12_echo_226 : decode cX12_echo 226 = .ok (.iconst 0, 1) := do_3 (rdb (p := 224) (i := 2) ch_cX12_echo_224 rfl)
theorem dX12_echo_227 : decode cX12_echo 227 = .ok (.ireturn, 1) := do_172 (rdb (p := 224) (i := 3) ch_cX12_echo_224 rfl)
theorem ch_cX12_echoFrom_0 : (cX12_echoFrom.data.toList.drop 0).take 36 = [4, 54, 4, 21, 4, 29, 163, 0, 38, 42, 27, 28, 21, 4, 182, 0, 234, 155, 0, 27, 42, 42, 27, 28, 21, 4, 182, 0, 234, 182, 0, 107, 154, 0, 6, 21] := by decide +kernel
theorem dX12_echoFrom_0 : decode cX12_echoFrom 0 = .ok (.iconst 1, 1) := do_4 (rdb (p := 0) (i := 0) ch_cX12_echoFrom_0 rfl)
theorem dX12_echoFrom_1 : decode cX12_echoFrom 1 = .ok (.istore 4, 2) := do_54 (rdb (p := 0) (i := 1) ch_cX12_echoFrom_0 rfl) (rdb (p := 0) (i := 2) ch_cX12_echoFrom_0 rfl)
theorem dX12_echoFrom_3 : decode cX12_echoFrom 3 = .ok (.iload 4, 2) := do_21 (rdb (p := 0) (i := 3) ch_cX12_echoFrom_0 rfl) (rdb (p := 0) (i := 4) ch_cX12_echoFrom_0 rfl)
theorem dX12_echoFrom_5 : decode cX12_echoFrom 5 = .ok (.iload_n 3, 1) := do_29 (rdb (p := 0) (i := 5) ch_cX12_echoFrom_0 rfl)
theorem dX12_echoFrom_6 : decode cX12_echoFrom 6 = .ok (.if_icmp .gt 38, 3) := do_163 (rdb (p := 0) (i := 6) ch_cX12_echoFrom_0 rfl) (rdb (p := 0) (i := 7) ch_cX12_echoFrom_0 rfl) (rdb (p := 0) (i := 8) ch_cX12_echoFrom_0 rfl) (by decide +kernel)
theorem dX12_echoFrom_9 : decode cX12_echoFrom 9 = .ok (.aload_n 0, 1) := do_42 (rdb (p := 0) (i := 9) ch_cX12_echoFrom_0 rfl)
theorem dX12_echoFrom_10 : decode cX12_echoFrom 10 = .ok (.iload_n 1, 1) := do_27 (rdb (p := 0) (i := 10) ch_cX12_echoFrom_0 rfl)
theorem dX12_echoFrom_11 : decode cX12_echoFrom 11 = .ok (.iload_n 2, 1) := do_28 (rdb (p := 0) (i := 11) ch_cX12_echoFrom_0 rfl)
theorem dX12_echoFrom_12 : decode cX12_echoFrom 12 = .ok (.iload 4, 2) := do_21 (rdb (p := 0) (i := 12) ch_cX12_echoFrom_0 rfl) (rdb (p := 0) (i := 13) ch_cX12_echoFrom_0 rfl)
theorem dX12_echoFrom_14 : decode cX12_echoFrom 14 = .ok (.invokevirtual 234, 3) := do_182 (rdb (p := 0) (i := 14) ch_cX12_echoFrom_0 rfl) (rdb (p := 0) (i := 15) ch_cX12_echoFrom_0 rfl) (rdb (p := 0) (i := 16) ch_cX12_echoFrom_0 rfl) rfl
theorem dX12_echoFrom_17 : decode cX12_echoFrom 17 = .ok (.ifCond .lt 27, 3) := do_155 (rdb (p := 0) (i := 17) ch_cX12_echoFrom_0 rfl) (rdb (p := 0) (i := 18) ch_cX12_echoFrom_0 rfl) (rdb (p := 0) (i := 19) ch_cX12_echoFrom_0 rfl) (by decide +kernel)
theorem dX12_echoFrom_20 : decode cX12_echoFrom 20 = .ok (.aload_n 0, 1) := do_42 (rdb (p := 0) (i := 20) ch_cX12_echoFrom_0 rfl)
theorem dX12_echoFrom_21 : decode cX12_echoFrom 21 = .ok (.aload_n 0, 1) := do_42 (rdb (p := 0) (i := 21) ch_cX12_echoFrom_0 rfl)
theorem dX12_echoFrom_22 : decode cX12_echoFrom 22 = .ok (.iload_n 1, 1) := do_27 (rdb (p := 0) (i := 22) ch_cX12_echoFrom_0 rfl)
theorem dX12_echoFrom_23 : decode cX12_echoFrom 23 = .ok (.iload_n 2, 1) := do_28 (rdb (p := 0) (i := 23) ch_cX12_echoFrom_0 rfl)
theorem dX12_echoFrom_24 : decode cX12_echoFrom 24 = .ok (.iload 4, 2) := do_21 (rdb (p := 0) (i := 24) ch_cX12_echoFrom_0 rfl) (rdb (p := 0) (i := 25) ch_cX12_echoFrom_0 rfl)
theorem dX12_echoFrom_26 : decode cX12_echoFrom 26 = .ok (.invokevirtual 234, 3) := do_182 (rdb (p := 0) (i := 26) ch_cX12_echoFrom_0 rfl) (rdb (p := 0) (i := 27) ch_cX12_echoFrom_0 rfl) (rdb (p := 0) (i := 28) ch_cX12_echoFrom_0 rfl) rfl
theorem dX12_echoFrom_29 : decode cX12_echoFrom 29 = .ok (.invokevirtual 107, 3) := do_182 (rdb (p := 0) (i := 29) ch_cX12_echoFrom_0 rfl) (rdb (p := 0) (i := 30) ch_cX12_echoFrom_0 rfl) (rdb (p := 0) (i := 31) ch_cX12_echoFrom_0 rfl) rfl
theorem ch_cX12_echoFrom_32 : (cX12_echoFrom.data.toList.drop 32).take 36 = [154, 0, 6, 21, 4, 172, 132, 4, 1, 167, 255, 218, 3, 172] := by decide +kernel
theorem dX12_echoFrom_32 : decode cX12_echoFrom 32 = .ok (.ifCond .ne 6, 3) := do_154 (rdb (p := 32) (i := 0) ch_cX12_echoFrom_32 rfl) (rdb (p := 32) (i := 1) ch_cX12_echoFrom_32 rfl) (rdb (p := 32) (i := 2) ch_cX12_echoFrom_32 rfl) (by decide +kernel)
theorem dX12_echoFrom_35 : decode cX12_echoFrom 35 = .ok (.iload 4, 2) := do_21 (rdb (p := 32) (i := 3) ch_cX12_echoFrom_32 rfl) (rdb (p := 32) (i := 4) ch_cX12_echoFrom_32 rfl)
theorem dX12_echoFrom_37 : decode cX12_echoFrom 37 = .ok (.ireturn, 1) := do_172 (rdb (p := 32) (i := 5) ch_cX12_echoFrom_32 rfl)
theorem dX12_echoFrom_38 : decode cX12_echoFrom 38 = .ok (.iinc 4 1, 3) := do_132 (rdb (p := 32) (i := 6) ch_cX12_echoFrom_32 rfl) (rdb (p := 32) (i := 7) ch_cX12_echoFrom_32 rfl) (rdb (p := 32) (i := 8) ch_cX12_echoFrom_32 rfl) (by decide +kernel)
theorem dX12_echoFrom_41 : decode cX12_echoFrom 41 = .ok (.goto (-38), 3) := do_167 (rdb (p := 32) (i := 9) ch_cX12_echoFrom_32 rfl) (rdb (p := 32) (i := 10) ch_cX12_echoFrom_32 rfl) (rdb (p := 32) (i := 11) ch_cX12_echoFrom_32 rfl) (by decide +kernel)
theorem dX12_echoFrom_44 : decode cX12_echoFrom 44 = .ok (.iconst 0, 1) := do_3 (rdb (p := 32) (i := 12) ch_cX12_echoFrom_32 rfl)
theorem dX12_echoFrom_45 : decode cX12_echoFrom 45 = .ok (.ireturn, 1) := do_172 (rdb (p := 32) (i := 13) ch_cX12_echoFrom_32 rfl)
theorem ch_cX12_farthest_0 : (cX12_farthest.data.toList.drop 0).take 36 = [42, 27, 5, 182, 0, 116, 153, 0, 20, 28, 3, 7, 184, 0, 85, 153, 0, 11, 42, 29, 182, 0, 237, 154, 0, 10, 42, 18, 103, 182, 0, 104, 172, 42, 27, 182] := by decide +kernel
theorem dX12_farthest_0 : decode cX12_farthest 0 = .ok (.aload_n 0, 1) := do_42 (rdb (p := 0) (i := 0) ch_cX12_farthest_0 rfl)
theorem dX12_farthest_1 : decode cX12_farthest 1 = .ok (.iload_n 1, 1) := do_27 (rdb (p := 0) (i := 1) ch_cX12_farthest_0 rfl)
theorem dX12_farthest_2 : decode cX12_farthest 2 = .ok (.iconst 2, 1) := do_5 (rdb (p := 0) (i := 2) ch_cX12_farthest_0 rfl)
theorem dX12_farthest_3 : decode cX12_farthest 3 = .ok (.invokevirtual 116, 3) := do_182 (rdb (p := 0) (i := 3) ch_cX12_farthest_0 rfl) (rdb (p := 0) (i := 4) ch_cX12_farthest_0 rfl) (rdb (p := 0) (i := 5) ch_cX12_farthest_0 rfl) rfl
theorem dX12_farthest_6 : decode cX12_farthest 6 = .ok (.ifCond .eq 20, 3) := do_153 (rdb (p := 0) (i := 6) ch_cX12_farthest_0 rfl) (rdb (p := 0) (i := 7) ch_cX12_farthest_0 rfl) (rdb (p := 0) (i := 8) ch_cX12_farthest_0 rfl) (by decide +kernel)
theorem dX12_farthest_9 : decode cX12_farthest 9 = .ok (.iload_n 2, 1) := do_28 (rdb (p := 0) (i := 9) ch_cX12_farthest_0 rfl)
theorem dX12_farthest_10 : decode cX12_farthest 10 = .ok (.iconst 0, 1) := do_3 (rdb (p := 0) (i := 10) ch_cX12_farthest_0 rfl)
theorem dX12_farthest_11 : decode cX12_farthest 11 = .ok (.iconst 4, 1) := do_7 (rdb (p := 0) (i := 11) ch_cX12_farthest_0 rfl)
theorem dX12_farthest_12 : decode cX12_farthest 12 = .ok (.invokestatic 85, 3) := do_184 (rdb (p := 0) (i := 12) ch_cX12_farthest_0 rfl) (rdb (p := 0) (i := 13) ch_cX12_farthest_0 rfl) (rdb (p := 0) (i := 14) ch_cX12_farthest_0 rfl) rfl
theorem dX12_farthest_15 : decode cX12_farthest 15 = .ok (.ifCond .eq 11, 3) := do_153 (rdb (p := 0) (i := 15) ch_cX12_farthest_0 rfl) (rdb (p := 0) (i := 16) ch_cX12_farthest_0 rfl) (rdb (p := 0) (i := 17) ch_cX12_farthest_0 rfl) (by decide +kernel)
theorem dX12_farthest_18 : decode cX12_farthest 18 = .ok (.aload_n 0, 1) := do_42 (rdb (p := 0) (i := 18) ch_cX12_farthest_0 rfl)
theorem dX12_farthest_19 : decode cX12_farthest 19 = .ok (.iload_n 3, 1) := do_29 (rdb (p := 0) (i := 19) ch_cX12_farthest_0 rfl)
theorem dX12_farthest_20 : decode cX12_farthest 20 = .ok (.invokevirtual 237, 3) := do_182 (rdb (p := 0) (i := 20) ch_cX12_farthest_0 rfl) (rdb (p := 0) (i := 21) ch_cX12_farthest_0 rfl) (rdb (p := 0) (i := 22) ch_cX12_farthest_0 rfl) rfl
theorem dX12_farthest_23 : decode cX12_farthest 23 = .ok (.ifCond .ne 10, 3) := do_154 (rdb (p := 0) (i := 23) ch_cX12_farthest_0 rfl) (rdb (p := 0) (i := 24) ch_cX12_farthest_0 rfl) (rdb (p := 0) (i := 25) ch_cX12_farthest_0 rfl) (by decide +kernel)
theorem dX12_farthest_26 : decode cX12_farthest 26 = .ok (.aload_n 0, 1) := do_42 (rdb (p := 0) (i := 26) ch_cX12_farthest_0 rfl)
theorem dX12_farthest_27 : decode cX12_farthest 27 = .ok (.ldc 103, 2) := do_18 (rdb (p := 0) (i := 27) ch_cX12_farthest_0 rfl) (rdb (p := 0) (i := 28) ch_cX12_farthest_0 rfl)
theorem dX12_farthest_29 : decode cX12_farthest 29 = .ok (.invokevirtual 104, 3) := do_182 (rdb (p := 0) (i := 29) ch_cX12_farthest_0 rfl) (rdb (p := 0) (i := 30) ch_cX12_farthest_0 rfl) (rdb (p := 0) (i := 31) ch_cX12_farthest_0 rfl) rfl
theorem ch_cX12_farthest_32 : (cX12_farthest.data.toList.drop 32).take 36 = [172, 42, 27, 182, 0, 140, 54, 4, 21, 4, 158, 0, 36, 42, 42, 27, 182, 0, 143, 28, 29, 16, 100, 108, 29, 16, 100, 112, 3, 21, 4, 182, 0, 249, 153, 0] := by decide +kernel
theorem dX12_farthest_32 : decode cX12_farthest 32 = .ok (.ireturn, 1) := do_172 (rdb (p := 32) (i := 0) ch_cX12_farthest_32 rfl)
theorem dX12_farthest_33 : decode cX12_farthest 33 = .ok (.aload_n 0, 1) := do_42 (rdb (p := 32) (i := 1) ch_cX12_farthest_32 rfl)
theorem dX12_farthest_34 : decode cX12_farthest 34 = .ok (.iload_n 1, 1) := do_27 (rdb (p := 32) (i := 2) ch_cX12_farthest_32 rfl)
theorem dX12_farthest_35 : decode cX12_farthest 35 = .ok (.invokevirtual 140, 3) := do_182 (rdb (p := 32) (i := 3) ch_cX12_farthest_32 rfl) (rdb (p := 32) (i := 4) ch_cX12_farthest_32 rfl) (rdb (p := 32) (i := 5) ch_cX12_farthest_32 rfl) rfl
theorem dX12_farthest_38 : decode cX12_farthest 38 = .ok (.istore 4, 2) := do_54 (rdb (p := 32) (i := 6) ch_cX12_farthest_32 rfl) (rdb (p := 32) (i := 7) ch_cX12_farthest_32 rfl)
theorem dX12_farthest_40 : decode cX12_farthest 40 = .ok (.iload 4, 2) := do_21 (rdb (p := 32) (i := 8) ch_cX12_farthest_32 rfl) (rdb (p := 32) (i := 9) ch_cX12_farthest_32 rfl)
theorem dX12_farthest_42 : decode cX12_farthest 42 = .ok (.ifCond .le 36, 3) := do_158 (rdb (p := 32) (i := 10) ch_cX12_farthest_32 rfl) (rdb (p := 32) (i := 11) ch_cX12_farthest_32 rfl) (rdb (p := 32) (i := 12) ch_cX12_farthest_32 rfl) (by decide +kernel)
theorem dX12_farthest_45 : decode cX12_farthest 45 = .ok (.aload_n 0, 1) := do_42 (rdb (p := 32) (i := 13) ch_cX12_farthest_32 rfl)
theorem dX12_farthest_46 : decode cX12_farthest 46 = .ok (.aload_n 0, 1) := do_42 (rdb (p := 32) (i := 14) ch_cX12_farthest_32 rfl)
theorem dX12_farthest_47 : decode cX12_farthest 47 = .ok (.iload_n 1, 1) := do_27 (rdb (p := 32) (i := 15) ch_cX12_farthest_32 rfl)
theorem dX12_farthest_48 : decode cX12_farthest 48 = .ok (.invokevirtual 143, 3) := do_182 (rdb (p := 32) (i := 16) ch_cX12_farthest_32 rfl) (rdb (p := 32) (i := 17) ch_cX12_farthest_32 rfl) (rdb (p := 32) (i := 18) ch_cX12_farthest_32 rfl) rfl
theorem dX12_farthest_51 : decode cX12_farthest 51 = .ok (.iload_n 2, 1) := do_28 (rdb (p := 32) (i := 19) ch_cX12_farthest_32 rfl)
theorem dX12_farthest_52 : decode cX12_farthest 52 = .ok (.iload_n 3, 1) := do_29 (rdb (p := 32) (i := 20) ch_cX12_farthest_32 rfl)
theorem dX12_farthest_53 : decode cX12_farthest 53 = .ok (.bipush 100, 2) := do_16 (rdb (p := 32) (i := 21) ch_cX12_farthest_32 rfl) (rdb (p := 32) (i := 22) ch_cX12_farthest_32 rfl) (by decide +kernel)
theorem dX12_farthest_55 : decode cX12_farthest 55 = .ok (.idiv, 1) := do_108 (rdb (p := 32) (i := 23) ch_cX12_farthest_32 rfl)
theorem dX12_farthest_56 : decode cX12_farthest 56 = .ok (.iload_n 3, 1) := do_29 (rdb (p := 32) (i := 24) ch_cX12_farthest_32 rfl)
theorem dX12_farthest_57 : decode cX12_farthest 57 = .ok (.bipush 100, 2) := do_16 (rdb (p := 32) (i := 25) ch_cX12_farthest_32 rfl) (rdb (p := 32) (i := 26) ch_cX12_farthest_32 rfl) (by decide +kernel)
theorem dX12_farthest_59 : decode cX12_farthest 59 = .ok (.irem, 1) := do_112 (rdb (p := 32) (i := 27) ch_cX12_farthest_32 rfl)
theorem dX12_farthest_60 : decode cX12_farthest 60 = .ok (.iconst 0, 1) := do_3 (rdb (p := 32) (i := 28) ch_cX12_farthest_32 rfl)
theorem dX12_farthest_61 : decode cX12_farthest 61 = .ok (.iload 4, 2) := do_21 (rdb (p := 32) (i := 29) ch_cX12_farthest_32 rfl) (rdb (p := 32) (i := 30) ch_cX12_farthest_32 rfl)
theorem dX12_farthest_63 : decode cX12_farthest 63 = .ok (.invokevirtual 249, 3) := do_182 (rdb (p := 32) (i := 31) ch_cX12_farthest_32 rfl) (rdb (p := 32) (i := 32) ch_cX12_farthest_32 rfl) (rdb (p := 32) (i := 33) ch_cX12_farthest_32 rfl) rfl
theorem ch_cX12_farthest_64 : (cX12_farthest.data.toList.drop 64).take 36 = [0, 249, 153, 0, 6, 21, 4, 172, 132, 4, 255, 167, 255, 221, 42, 18, 130, 182, 0, 104, 172] := by decide +kernel
theorem dX12_farthest_66 : decode cX12_farthest 66 = .ok (.ifCond .eq 6, 3) := do_153 (rdb (p := 64) (i := 2) ch_cX12_farthest_64 rfl) (rdb (p := 64) (i := 3) ch_cX12_farthest_64 rfl) (rdb (p := 64) (i := 4) ch_cX12_farthest_64 rfl) (by decide +kernel)
theorem dX12_farthest_69 : decode cX12_farthest 69 = .ok (.iload 4, 2) := do_21 (rdb (p := 64) (i := 5) ch_cX12_farthest_64 rfl) (rdb (p := 64) (i := 6) ch_cX12_farthest_64 rfl)
theorem dX12_farthest_71 : decode cX12_farthest 71 = .ok (.ireturn, 1) := do_172 (rdb (p := 64) (i := 7) ch_cX12_farthest_64 rfl)
theorem dX12_farthest_72 : decode cX12_farthest 72 = .ok (.iinc 4 (-1), 3) := do_132 (rdb (p := 64) (i := 8) ch_cX12_farthest_64 rfl) (rdb (p := 64) (i := 9) ch_cX12_farthest_64 rfl) (rdb (p := 64) (i := 10) ch_cX12_farthest_64 rfl) (by decide +kernel)
theorem dX12_farthest_75 : decode cX12_farthest 75 = .ok (.goto (-35), 3) := do_167 (rdb (p := 64) (i := 11) ch_cX12_farthest_64 rfl) (rdb (p := 64) (i := 12) ch_cX12_farthest_64 rfl) (rdb (p := 64) (i := 13) ch_cX12_farthest_64 rfl) (by decide +kernel)
theorem dX12_farthest_78 : decode cX12_farthest 78 = .ok (.aload_n 0, 1) := do_42 (rdb (p := 64) (i := 14) ch_cX12_farthest_64 rfl)
theorem dX12_farthest_79 : decode cX12_farthest 79 = .ok (.ldc 130, 2) := do_18 (rdb (p := 64) (i := 15) ch_cX12_farthest_64 rfl) (rdb (p := 64) (i := 16) ch_cX12_farthest_64 rfl)
theorem dX12_farthest_81 : decode cX12_farthest 81 = .ok (.invokevirtual 104, 3) := do_182 (rdb (p := 64) (i := 17) ch_cX12_farthest_64 rfl) (rdb (p := 64) (i := 18) ch_cX12_farthest_64 rfl) (rdb (p := 64) (i := 19) ch_cX12_farthest_64 rfl) rfl
theorem dX12_farthest_84 : decode cX12_farthest 84 = .ok (.ireturn, 1) := do_172 (rdb (p := 64) (i := 20) ch_cX12_farthest_64 rfl)
theorem ch_cX12_given_0 : (cX12_given.data.toList.drop 0).take 36 = [17, 1, 89, 16, 50, 27, 104, 96, 4, 96, 61, 3, 62, 28, 54, 4, 21, 4, 28, 42, 180, 0, 9, 28, 4, 100, 46, 96, 162, 0, 170, 42, 180, 0, 9, 21] := by decide +kernel
theorem dX12_given_0 : decode cX12_given 0 = .ok (.sipush 345, 3) := do_17 (rdb (p := 0) (i := 0) ch_cX12_given_0 rfl) (rdb (p := 0) (i := 1) ch_cX12_given_0 rfl) (rdb (p := 0) (i := 2) ch_cX12_given_0 rfl) (by decide +kernel)
theorem dX12_given_3 : decode cX12_given 3 = .ok (.bipush 50, 2) := do_16 (rdb (p := 0) (i := 3) ch_cX12_given_0 rfl) (rdb (p := 0) (i := 4) ch_cX12_given_0 rfl) (by decide +kernel)
theorem dX12_given_5 : decode cX12_given 5 = .ok (.iload_n 1, 1) := do_27 (rdb (p := 0) (i := 5) ch_cX12_given_0 rfl)
theorem dX12_given_6 : decode cX12_given 6 = .ok (.imul, 1) := do_104 (rdb (p := 0) (i := 6) ch_cX12_given_0 rfl)
theorem dX12_given_7 : decode cX12_given 7 = .ok (.iadd, 1) := do_96 (rdb (p := 0) (i := 7) ch_cX12_given_0 rfl)
theorem dX12_given_8 : decode cX12_given 8 = .ok (.iconst 1, 1) := do_4 (rdb (p := 0) (i := 8) ch_cX12_given_0 rfl)
theorem dX12_given_9 : decode cX12_given 9 = .ok (.iadd, 1) := do_96 (rdb (p := 0) (i := 9) ch_cX12_given_0 rfl)
theorem dX12_given_10 : decode cX12_given 10 = .ok (.istore_n 2, 1) := do_61 (rdb (p := 0) (i := 10) ch_cX12_given_0 rfl)
theorem dX12_given_11 : decode cX12_given 11 = .ok (.iconst 0, 1) := do_3 (rdb (p := 0) (i := 11) ch_cX12_given_0 rfl)
theorem dX12_given_12 : decode cX12_given 12 = .ok (.istore_n 3, 1) := do_62 (rdb (p := 0) (i := 12) ch_cX12_given_0 rfl)
theorem dX12_given_13 : decode cX12_given 13 = .ok (.iload_n 2, 1) := do_28 (rdb (p := 0) (i := 13) ch_cX12_given_0 rfl)
theorem dX12_given_14 : decode cX12_given 14 = .ok (.istore 4, 2) := do_54 (rdb (p := 0) (i := 14) ch_cX12_given_0 rfl) (rdb (p := 0) (i := 15) ch_cX12_given_0 rfl)
theorem dX12_given_16 : decode cX12_given 16 = .ok (.iload 4, 2) := do_21 (rdb (p := 0) (i := 16) ch_cX12_given_0 rfl) (rdb (p := 0) (i := 17) ch_cX12_given_0 rfl)
theorem dX12_given_18 : decode cX12_given 18 = .ok (.iload_n 2, 1) := do_28 (rdb (p := 0) (i := 18) ch_cX12_given_0 rfl)
theorem dX12_given_19 : decode cX12_given 19 = .ok (.aload_n 0, 1) := do_42 (rdb (p := 0) (i := 19) ch_cX12_given_0 rfl)
theorem dX12_given_20 : decode cX12_given 20 = .ok (.getfield 9, 3) := do_180 (rdb (p := 0) (i := 20) ch_cX12_given_0 rfl) (rdb (p := 0) (i := 21) ch_cX12_given_0 rfl) (rdb (p := 0) (i := 22) ch_cX12_given_0 rfl) rfl
theorem dX12_given_23 : decode cX12_given 23 = .ok (.iload_n 2, 1) := do_28 (rdb (p := 0) (i := 23) ch_cX12_given_0 rfl)
theorem dX12_given_24 : decode cX12_given 24 = .ok (.iconst 1, 1) := do_4 (rdb (p := 0) (i := 24) ch_cX12_given_0 rfl)
theorem dX12_given_25 : decode cX12_given 25 = .ok (.isub, 1) := do_100 (rdb (p := 0) (i := 25) ch_cX12_given_0 rfl)
theorem dX12_given_26 : decode cX12_given 26 = .ok (.iaload, 1) := do_46 (rdb (p := 0) (i := 26) ch_cX12_given_0 rfl)
theorem dX12_given_27 : decode cX12_given 27 = .ok (.iadd, 1) := do_96 (rdb (p := 0) (i := 27) ch_cX12_given_0 rfl)
theorem dX12_given_28 : decode cX12_given 28 = .ok (.if_icmp .ge 170, 3) := do_162 (rdb (p := 0) (i := 28) ch_cX12_given_0 rfl) (rdb (p := 0) (i := 29) ch_cX12_given_0 rfl) (rdb (p := 0) (i := 30) ch_cX12_given_0 rfl) (by decide +kernel)
theorem dX12_given_31 : decode cX12_given 31 = .ok (.aload_n 0, 1) := do_42 (rdb (p := 0) (i := 31) ch_cX12_given_0 rfl)
theorem ch_cX12_given_32 : (cX12_given.data.toList.drop 32).take 36 = [180, 0, 9, 21, 4, 46, 54, 5, 21, 5, 17, 7, 208, 162, 0, 39, 42, 180, 0, 50, 29, 21, 5, 17, 3, 232, 162, 0, 8, 21, 5, 167, 0, 14, 42, 180] := by decide +kernel
theorem dX12_given_32 : decode cX12_given 32 = .ok (.getfield 9, 3) := do_180 (rdb (p := 32) (i := 0) ch_cX12_given_32 rfl) (rdb (p := 32) (i := 1) ch_cX12_given_32 rfl) (rdb (p := 32) (i := 2) ch_cX12_given_32 rfl) rfl
theorem dX12_given_35 : decode cX12_given 35 = .ok (.iload 4, 2) := do_21 (rdb (p := 32) (i := 3) ch_cX12_given_32 rfl) (rdb (p := 32) (i := 4) ch_cX12_given_32 rfl)
theorem dX12_given_37 : decode cX12_given 37 = .ok (.iaload, 1) := do_46 (rdb (p := 32) (i := 5) ch_cX12_given_32 rfl)
theorem dX12_given_38 : decode cX12_given 38 = .ok (.istore 5, 2) := do_54 (rdb (p := 32) (i := 6) ch_cX12_given_32 rfl) (rdb (p := 32) (i := 7) ch_cX12_given_32 rfl)
theorem dX12_given_40 : decode cX12_given 40 = .ok (.iload 5, 2) := do_21 (rdb (p := 32) (i := 8) ch_cX12_given_32 rfl) (rdb (p := 32) (i := 9) ch_cX12_given_32 rfl)
theorem dX12_given_42 : decode cX12_given 42 = .ok (.sipush 2000, 3) := do_17 (rdb (p := 32) (i := 10) ch_cX12_given_32 rfl) (rdb (p := 32) (i := 11) ch_cX12_given_32 rfl) (rdb (p := 32) (i := 12) ch_cX12_given_32 rfl) (by decide +kernel)
theorem dX12_given_45 : decode cX12_given 45 = .ok (.if_icmp .ge 39, 3) := do_162 (rdb (p := 32) (i := 13) ch_cX12_given_32 rfl) (rdb (p := 32) (i := 14) ch_cX12_given_32 rfl) (rdb (p := 32) (i := 15) ch_cX12_given_32 rfl) (by decide +kernel)
theorem dX12_given_48 : decode cX12_given 48 = .ok (.aload_n 0, 1) := do_42 (rdb (p := 32) (i := 16) ch_cX12_given_32 rfl)
theorem dX12_given_49 : decode cX12_given 49 = .ok (.getfield 50, 3) := do_180 (rdb (p := 32) (i := 17) ch_cX12_given_32 rfl) (rdb (p := 32) (i := 18) ch_cX12_given_32 rfl) (rdb (p := 32) (i := 19) ch_cX12_given_32 rfl) rfl
theorem dX12_given_52 : decode cX12_given 52 = .ok (.iload_n 3, 1) := do_29 (rdb (p := 32) (i := 20) ch_cX12_given_32 rfl)
theorem dX12_given_53 : decode cX12_given 53 = .ok (.iload 5, 2) := do_21 (rdb (p := 32) (i := 21) ch_cX12_given_32 rfl) (rdb (p := 32) (i := 22) ch_cX12_given_32 rfl)
theorem dX12_given_55 : decode cX12_given 55 = .ok (.sipush 1000, 3) := do_17 (rdb (p := 32) (i := 23) ch_cX12_given_32 rfl) (rdb (p := 32) (i := 24) ch_cX12_given_32 rfl) (rdb (p := 32) (i := 25) ch_cX12_given_32 rfl) (by decide +kernel)
theorem dX12_given_58 : decode cX12_given 58 = .ok (.if_icmp .ge 8, 3) := do_162 (rdb (p := 32) (i := 26) ch_cX12_given_32 rfl) (rdb (p := 32) (i := 27) ch_cX12_given_32 rfl) (rdb (p := 32) (i := 28) ch_cX12_given_32 rfl) (by decide +kernel)
theorem dX12_given_61 : decode cX12_given 61 = .ok (.iload 5, 2) := do_21 (rdb (p := 32) (i := 29) ch_cX12_given_32 rfl) (rdb (p := 32) (i := 30) ch_cX12_given_32 rfl)
theorem dX12_given_63 : decode cX12_given 63 = .ok (.goto 14, 3) := do_167 (rdb (p := 32) (i := 31) ch_cX12_given_32 rfl) (rdb (p := 32) (i := 32) ch_cX12_given_32 rfl) (rdb (p := 32) (i := 33) ch_cX12_given_32 rfl) (by decide +kernel)
theorem ch_cX12_given_64 : (cX12_given.data.toList.drop 64).take 36 = [0, 14, 42, 180, 0, 47, 21, 5, 17, 3, 232, 100, 46, 79, 132, 3, 1, 167, 0, 111, 21, 5, 17, 7, 216, 160, 0, 23, 42, 180, 0, 50, 29, 4, 100, 42] := by decide +kernel
theorem dX12_given_66 : decode cX12_given 66 = .ok (.aload_n 0, 1) := do_42 (rdb (p := 64) (i := 2) ch_cX12_given_64 rfl)
theorem dX12_given_67 : decode cX12_given 67 = .ok (.getfield 47, 3) := do_180 (rdb (p := 64) (i := 3) ch_cX12_given_64 rfl) (rdb (p := 64) (i := 4) ch_cX12_given_64 rfl) (rdb (p := 64) (i := 5) ch_cX12_given_64 rfl) rfl
theorem dX12_given_70 : decode cX12_given 70 = .ok (.iload 5, 2) := do_21 (rdb (p := 64) (i := 6) ch_cX12_given_64 rfl) (rdb (p := 64) (i := 7) ch_cX12_given_64 rfl)
theorem dX12_given_72 : decode cX12_given 72 = .ok (.sipush 1000, 3) := do_17 (rdb (p := 64) (i := 8) ch_cX12_given_64 rfl) (rdb (p := 64) (i := 9) ch_cX12_given_64 rfl) (rdb (p := 64) (i := 10) ch_cX12_given_64 rfl) (by decide +kernel)
theorem dX12_given_75 : decode cX12_given 75 = .ok (.isub, 1) := do_100 (rdb (p := 64) (i := 11) ch_cX12_given_64 rfl)
theorem dX12_given_76 : decode cX12_given 76 = .ok (.iaload, 1) := do_46 (rdb (p := 64) (i := 12) ch_cX12_given_64 rfl)
theorem dX12_given_77 : decode cX12_given 77 = .ok (.iastore, 1) := do_79 (rdb (p := 64) (i := 13) ch_cX12_given_64 rfl)
theorem dX12_given_78 : decode cX12_given 78 = .ok (.iinc 3 1, 3) := do_132 (rdb (p := 64) (i := 14) ch_cX12_given_64 rfl) (rdb (p := 64) (i := 15) ch_cX12_given_64 rfl) (rdb (p := 64) (i := 16) ch_cX12_given_64 rfl) (by decide +kernel)
theorem dX12_given_81 : decode cX12_given 81 = .ok (.goto 111, 3) := do_167 (rdb (p := 64) (i := 17) ch_cX12_given_64 rfl) (rdb (p := 64) (i := 18) ch_cX12_given_64 rfl) (rdb (p := 64) (i := 19) ch_cX12_given_64 rfl) (by decide +kernel)
theorem dX12_given_84 : decode cX12_given 84 = .ok (.iload 5, 2) := do_21 (rdb (p := 64) (i := 20) ch_cX12_given_64 rfl) (rdb (p := 64) (i := 21) ch_cX12_given_64 rfl)
theorem dX12_given_86 : decode cX12_given 86 = .ok (.sipush 2008, 3) := do_17 (rdb (p := 64) (i := 22) ch_cX12_given_64 rfl) (rdb (p := 64) (i := 23) ch_cX12_given_64 rfl) (rdb (p := 64) (i := 24) ch_cX12_given_64 rfl) (by decide +kernel)
theorem dX12_given_89 : decode cX12_given 89 = .ok (.if_icmp .ne 23, 3) := do_160 (rdb (p := 64) (i := 25) ch_cX12_given_64 rfl) (rdb (p := 64) (i := 26) ch_cX12_given_64 rfl) (rdb (p := 64) (i := 27) ch_cX12_given_64 rfl) (by decide +kernel)
theorem dX12_given_92 : decode cX12_given 92 = .ok (.aload_n 0, 1) := do_42 (rdb (p := 64) (i := 28) ch_cX12_given_64 rfl)
theorem dX12_given_93 : decode cX12_given 93 = .ok (.getfield 50, 3) := do_180 (rdb (p := 64) (i := 29) ch_cX12_given_64 rfl) (rdb (p := 64) (i := 30) ch_cX12_given_64 rfl) (rdb (p := 64) (i := 31) ch_cX12_given_64 rfl) rfl
theorem ch_cX12_given_96 : (cX12_given.data.toList.drop 96).take 36 = [29, 4, 100, 42, 180, 0, 50, 29, 4, 100, 46, 116, 79, 167, 0, 83, 21, 5, 17, 7, 217, 160, 0, 45, 132, 3, 254, 42, 180, 0, 50, 29, 4, 100, 42, 180] := by decide +kernel
theorem dX12_given_96 : decode cX12_given 96 = .ok (.iload_n 3, 1) := do_29 (rdb (p := 96) (i := 0) ch_cX12_given_96 rfl)
theorem dX12_given_97 : decode cX12_given 97 = .ok (.iconst 1, 1) := do_4 (rdb (p := 96) (i := 1) ch_cX12_given_96 rfl)
theorem dX12_given_98 : decode cX12_given 98 = .ok (.isub, 1) := do_100 (rdb (p := 96) (i := 2) ch_cX12_given_96 rfl)
theorem dX12_given_99 : decode cX12_given 99 = .ok (.aload_n 0, 1) := do_42 (rdb (p := 96) (i := 3) ch_cX12_given_96 rfl)
theorem dX12_given_100 : decode cX12_given 100 = .ok (.getfield 50, 3) := do_180 (rdb (p := 96) (i := 4) ch_cX12_given_96 rfl) (rdb (p := 96) (i := 5) ch_cX12_given_96 rfl) (rdb (p := 96) (i := 6) ch_cX12_given_96 rfl) rfl
theorem dX12_given_103 : decode cX12_given 103 = .ok (.iload_n 3, 1) := do_29 (rdb (p := 96) (i := 7) ch_cX12_given_96 rfl)
theorem dX12_given_104 : decode cX12_given 104 = .ok (.iconst 1, 1) := do_4 (rdb (p := 96) (i := 8) ch_cX12_given_96 rfl)
theorem dX12_given_105 : decode cX12_given 105 = .ok (.isub, 1) := do_100 (rdb (p := 96) (i := 9) ch_cX12_given_96 rfl)
theorem dX12_given_106 : decode cX12_given 106 = .ok (.iaload, 1) := do_46 (rdb (p := 96) (i := 10) ch_cX12_given_96 rfl)
theorem dX12_given_107 : decode cX12_given 107 = .ok (.ineg, 1) := do_116 (rdb (p := 96) (i := 11) ch_cX12_given_96 rfl)
theorem dX12_given_108 : decode cX12_given 108 = .ok (.iastore, 1) := do_79 (rdb (p := 96) (i := 12) ch_cX12_given_96 rfl)
theorem dX12_given_109 : decode cX12_given 109 = .ok (.goto 83, 3) := do_167 (rdb (p := 96) (i := 13) ch_cX12_given_96 rfl) (rdb (p := 96) (i := 14) ch_cX12_given_96 rfl) (rdb (p := 96) (i := 15) ch_cX12_given_96 rfl) (by decide +kernel)
theorem dX12_given_112 : decode cX12_given 112 = .ok (.iload 5, 2) := do_21 (rdb (p := 96) (i := 16) ch_cX12_given_96 rfl) (rdb (p := 96) (i := 17) ch_cX12_given_96 rfl)
theorem dX12_given_114 : decode cX12_given 114 = .ok (.sipush 2009, 3) := do_17 (rdb (p := 96) (i := 18) ch_cX12_given_96 rfl) (rdb (p := 96) (i := 19) ch_cX12_given_96 rfl) (rdb (p := 96) (i := 20) ch_cX12_given_96 rfl) (by decide +kernel)
theorem dX12_given_117 : decode cX12_given 117 = .ok (.if_icmp .ne 45, 3) := do_160 (rdb (p := 96) (i := 21) ch_cX12_given_96 rfl) (rdb (p := 96) (i := 22) ch_cX12_given_96 rfl) (rdb (p := 96) (i := 23) ch_cX12_given_96 rfl) (by decide +kernel)
theorem dX12_given_120 : decode cX12_given 120 = .ok (.iinc 3 (-2), 3) := do_132 (rdb (p := 96) (i := 24) ch_cX12_given_96 rfl) (rdb (p := 96) (i := 25) ch_cX12_given_96 rfl) (rdb (p := 96) (i := 26) ch_cX12_given_96 rfl) (by decide +kernel)
theorem dX12_given_123 : decode cX12_given 123 = .ok (.aload_n 0, 1) := do_42 (rdb (p := 96) (i := 27) ch_cX12_given_96 rfl)
theorem dX12_given_124 : decode cX12_given 124 = .ok (.getfield 50, 3) := do_180 (rdb (p := 96) (i := 28) ch_cX12_given_96 rfl) (rdb (p := 96) (i := 29) ch_cX12_given_96 rfl) (rdb (p := 96) (i := 30) ch_cX12_given_96 rfl) rfl
theorem dX12_given_127 : decode cX12_given 127 = .ok (.iload_n 3, 1) := do_29 (rdb (p := 96) (i := 31) ch_cX12_given_96 rfl)
theorem ch_cX12_given_128 : (cX12_given.data.toList.drop 128).take 36 = [4, 100, 42, 180, 0, 50, 29, 4, 100, 46, 153, 0, 12, 42, 180, 0, 50, 29, 46, 167, 0, 11, 42, 180, 0, 50, 29, 4, 96, 46, 79, 167, 0, 33, 132, 3] := by decide +kernel
theorem dX12_given_128 : decode cX12_given 128 = .ok (.iconst 1, 1) := do_4 (rdb (p := 128) (i := 0) ch_cX12_given_128 rfl)
theorem dX12_given_129 : decode cX12_given 129 = .ok (.isub, 1) := do_100 (rdb (p := 128) (i := 1) ch_cX12_given_128 rfl)
theorem dX12_given_130 : decode cX12_given 130 = .ok (.aload_n 0, 1) := do_42 (rdb (p := 128) (i := 2) ch_cX12_given_128 rfl)
theorem dX12_given_131 : decode cX12_given 131 = .ok (.getfield 50, 3) := do_180 (rdb (p := 128) (i := 3) ch_cX12_given_128 rfl) (rdb (p := 128) (i := 4) ch_cX12_given_128 rfl) (rdb (p := 128) (i := 5) ch_cX12_given_128 rfl) rfl
theorem dX12_given_134 : decode cX12_given 134 = .ok (.iload_n 3, 1) := do_29 (rdb (p := 128) (i := 6) ch_cX12_given_128 rfl)
theorem dX12_given_135 : decode cX12_given 135 = .ok (.iconst 1, 1) := do_4 (rdb (p := 128) (i := 7) ch_cX12_given_128 rfl)
theorem dX12_given_136 : decode cX12_given 136 = .ok (.isub, 1) := do_100 (rdb (p := 128) (i := 8) ch_cX12_given_128 rfl)
theorem dX12_given_137 : decode cX12_given 137 = .ok (.iaload, 1) := do_46 (rdb (p := 128) (i := 9) ch_cX12_given_128 rfl)
theorem dX12_given_138 : decode cX12_given 138 = .ok (.ifCond .eq 12, 3) := do_153 (rdb (p := 128) (i := 10) ch_cX12_given_128 rfl) (rdb (p := 128) (i := 11) ch_cX12_given_128 rfl) (rdb (p := 128) (i := 12) ch_cX12_given_128 rfl) (by decide +kernel)
theorem dX12_given_141 : decode cX12_given 141 = .ok (.aload_n 0, 1) := do_42 (rdb (p := 128) (i := 13) ch_cX12_given_128 rfl)
theorem dX12_given_142 : decode cX12_given 142 = .ok (.getfield 50, 3) := do_180 (rdb (p := 128) (i := 14) ch_cX12_given_128 rfl) (rdb (p := 128) (i := 15) ch_cX12_given_128 rfl) (rdb (p := 128) (i := 16) ch_cX12_given_128 rfl) rfl
theorem dX12_given_145 : decode cX12_given 145 = .ok (.iload_n 3, 1) := do_29 (rdb (p := 128) (i := 17) ch_cX12_given_128 rfl)
theorem dX12_given_146 : decode cX12_given 146 = .ok (.iaload, 1) := do_46 (rdb (p := 128) (i := 18) ch_cX12_given_128 rfl)
theorem dX12_given_147 : decode cX12_given 147 = .ok (.goto 11, 3) := do_167 (rdb (p := 128) (i := 19) ch_cX12_given_128 rfl) (rdb (p := 128) (i := 20) ch_cX12_given_128 rfl) (rdb (p := 128) (i := 21) ch_cX12_given_128 rfl) (by decide +kernel)
theorem dX12_given_150 : decode cX12_given 150 = .ok (.aload_n 0, 1) := do_42 (rdb (p := 128) (i := 22) ch_cX12_given_128 rfl)
theorem dX12_given_151 : decode cX12_given 151 = .ok (.getfield 50, 3) := do_180 (rdb (p := 128) (i := 23) ch_cX12_given_128 rfl) (rdb (p := 128) (i := 24) ch_cX12_given_128 rfl) (rdb (p := 128) (i := 25) ch_cX12_given_128 rfl) rfl
theorem dX12_given_154 : decode cX12_given 154 = .ok (.iload_n 3, 1) := do_29 (rdb (p := 128) (i := 26) ch_cX12_given_128 rfl)
theorem dX12_given_155 : decode cX12_given 155 = .ok (.iconst 1, 1) := do_4 (rdb (p := 128) (i := 27) ch_cX12_given_128 rfl)
theorem dX12_given_156 : decode cX12_given 156 = .ok (.iadd, 1) := do_96 (rdb (p := 128) (i := 28) ch_cX12_given_128 rfl)
theorem dX12_given_157 : decode cX12_given 157 = .ok (.iaload, 1) := do_46 (rdb (p := 128) (i := 29) ch_cX12_given_128 rfl)
theorem dX12_given_158 : decode cX12_given 158 = .ok (.iastore, 1) := do_79 (rdb (p := 128) (i := 30) ch_cX12_given_128 rfl)
theorem dX12_given_159 : decode cX12_given 159 = .ok (.goto 33, 3) := do_167 (rdb (p := 128) (i := 31) ch_cX12_given_128 rfl) (rdb (p := 128) (i := 32) ch_cX12_given_128 rfl) (rdb (p := 128) (i := 33) ch_cX12_given_128 rfl) (by decide +kernel)
theorem ch_cX12_given_160 : (cX12_given.data.toList.drop 160).take 36 = [0, 33, 132, 3, 255, 42, 180, 0, 50, 29, 4, 100, 21, 5, 42, 180, 0, 50, 29, 4, 100, 46, 42, 180, 0, 50, 29, 46, 184, 0, 209, 79, 132, 4, 1, 167] := by decide +kernel
theorem dX12_given_162 : decode cX12_given 162 = .ok (.iinc 3 (-1), 3) := do_132 (rdb (p := 160) (i := 2) ch_cX12_given_160 rfl) (rdb (p := 160) (i := 3) ch_cX12_given_160 rfl) (rdb (p := 160) (i := 4) ch_cX12_given_160 rfl) (by decide +kernel)
theorem dX12_given_165 : decode cX12_given 165 = .ok (.aload_n 0, 1) := do_42 (rdb (p := 160) (i := 5) ch_cX12_given_160 rfl)
theorem dX12_given_166 : decode cX12_given 166 = .ok (.getfield 50, 3) := do_180 (rdb (p := 160) (i := 6) ch_cX12_given_160 rfl) (rdb (p := 160) (i := 7) ch_cX12_given_160 rfl) (rdb (p := 160) (i := 8) ch_cX12_given_160 rfl) rfl
theorem dX12_given_169 : decode cX12_given 169 = .ok (.iload_n 3, 1) := do_29 (rdb (p := 160) (i := 9) ch_cX12_given_160 rfl)
theorem dX12_given_170 : decode cX12_given 170 = .ok (.iconst 1, 1) := do_4 (rdb (p := 160) (i := 10) ch_cX12_given_160 rfl)
theorem dX12_given_171 : decode cX12_given 171 = .ok (.isub, 1) := do_100 (rdb (p := 160) (i := 11) ch_cX12_given_160 rfl)
theorem dX12_given_172 : decode cX12_given 172 = .ok (.iload 5, 2) := do_21 (rdb (p := 160) (i := 12) ch_cX12_given_160 rfl) (rdb (p := 160) (i := 13) ch_cX12_given_160 rfl)
theorem dX12_given_174 : decode cX12_given 174 = .ok (.aload_n 0, 1) := do_42 (rdb (p := 160) (i := 14) ch_cX12_given_160 rfl)
theorem dX12_given_175 : decode cX12_given 175 = .ok (.getfield 50, 3) := do_180 (rdb (p := 160) (i := 15) ch_cX12_given_160 rfl) (rdb (p := 160) (i := 16) ch_cX12_given_160 rfl) (rdb (p := 160) (i := 17) ch_cX12_given_160 rfl) rfl
theorem dX12_given_178 : decode cX12_given 178 = .ok (.iload_n 3, 1) := do_29 (rdb (p := 160) (i := 18) ch_cX12_given_160 rfl)
theorem dX12_given_179 : decode cX12_given 179 = .ok (.iconst 1, 1) := do_4 (rdb (p := 160) (i := 19) ch_cX12_given_160 rfl)
theorem dX12_given_180 : decode cX12_given 180 = .ok (.isub, 1) := do_100 (rdb (p := 160) (i := 20) ch_cX12_given_160 rfl)
theorem dX12_given_181 : decode cX12_given 181 = .ok (.iaload, 1) := do_46 (rdb (p := 160) (i := 21) ch_cX12_given_160 rfl)
theorem dX12_given_182 : decode cX12_given 182 = .ok (.aload_n 0, 1) := do_42 (rdb (p := 160) (i := 22) ch_cX12_given_160 rfl)
theorem dX12_given_183 : decode cX12_given 183 = .ok (.getfield 50, 3) := do_180 (rdb (p := 160) (i := 23) ch_cX12_given_160 rfl) (rdb (p := 160) (i := 24) ch_cX12_given_160 rfl) (rdb (p := 160) (i := 25) ch_cX12_given_160 rfl) rfl
theorem dX12_given_186 : decode cX12_given 186 = .ok (.iload_n 3, 1) := do_29 (rdb (p := 160) (i := 26) ch_cX12_given_160 rfl)
theorem dX12_given_187 : decode cX12_given 187 = .ok (.iaload, 1) := do_46 (rdb (p := 160) (i := 27) ch_cX12_given_160 rfl)
theorem dX12_given_188 : decode cX12_given 188 = .ok (.invokestatic 209, 3) := do_184 (rdb (p := 160) (i := 28) ch_cX12_given_160 rfl) (rdb (p := 160) (i := 29) ch_cX12_given_160 rfl) (rdb (p := 160) (i := 30) ch_cX12_given_160 rfl) rfl
theorem dX12_given_191 : decode cX12_given 191 = .ok (.iastore, 1) := do_79 (rdb (p := 160) (i := 31) ch_cX12_given_160 rfl)
theorem ch_cX12_given_192 : (cX12_given.data.toList.drop 192).take 36 = [132, 4, 1, 167, 255, 77, 42, 180, 0, 50, 3, 46, 172] := by decide +kernel
theorem dX12_given_192 : decode cX12_given 192 = .ok (.iinc 4 1, 3) := do_132 (rdb (p := 192) (i := 0) ch_cX12_given_192 rfl) (rdb (p := 192) (i := 1) ch_cX12_given_192 rfl) (rdb (p := 192) (i := 2) ch_cX12_given_192 rfl) (by decide +kernel)
theorem dX12_given_195 : decode cX12_given 195 = .ok (.goto (-179), 3) := do_167 (rdb (p := 192) (i := 3) ch_cX12_given_192 rfl) (rdb (p := 192) (i := 4) ch_cX12_given_192 rfl) (rdb (p := 192) (i := 5) ch_cX12_given_192 rfl) (by decide +kernel)
theorem dX12_given_198 : decode cX12_given 198 = .ok (.aload_n 0, 1) := do_42 (rdb (p := 192) (i := 6) ch_cX12_given_192 rfl)
theorem dX12_given_199 : decode cX12_given 199 = .ok (.getfield 50, 3) := do_180 (rdb (p := 192) (i := 7) ch_cX12_given_192 rfl) (rdb (p := 192) (i := 8) ch_cX12_given_192 rfl) (rdb (p := 192) (i := 9) ch_cX12_given_192 rfl) rfl
theorem dX12_given_202 : decode cX12_given 202 = .ok (.iconst 0, 1) := do_3 (rdb (p := 192) (i := 10) ch_cX12_given_192 rfl)
theorem dX12_given_203 : decode cX12_given 203 = .ok (.iaload, 1) := do_46 (rdb (p := 192) (i := 11) ch_cX12_given_192 rfl)
theorem dX12_given_204 : decode cX12_given 204 = .ok (.ireturn, 1) := do_172 (rdb (p := 192) (i := 12) ch_cX12_given_192 rfl)
theorem dX12_hasText_0 : decode cX12_hasText 0 = .ok (.aload_n 0, 1) := by decide +kernel
theorem dX12_hasText_1 : decode cX12_hasText 1 = .ok (.getfield 9, 3) := by decide +kernel
theorem dX12_hasText_4 : decode cX12_hasText 4 = .ok (.sipush 345, 3) := by decide +kernel
theorem dX12_hasText_7 : decode cX12_hasText 7 = .ok (.bipush 50, 2) := by decide +kernel
theorem dX12_hasText_9 : decode cX12_hasText 9 = .ok (.iload_n 1, 1) := by decide +kernel
theorem dX12_hasText_10 : decode cX12_hasText 10 = .ok (.imul, 1) := by decide +kernel
theorem dX12_hasText_11 : decode cX12_hasText 11 = .ok (.iadd, 1) := by decide +kernel
theorem dX12_hasText_12 : decode cX12_hasText 12 = .ok (.iaload, 1) := by decide +kernel
theorem dX12_hasText_13 : decode cX12_hasText 13 = .ok (.ifCond .le 7, 3) := by decide +kernel
theorem dX12_hasText_16 : decode cX12_hasText 16 = .ok (.iconst 1, 1) := by decide +kernel
theorem dX12_hasText_17 : decode cX12_hasText 17 = .ok (.goto 4, 3) := by decide +kernel
theorem dX12_hasText_20 : decode cX12_hasText 20 = .ok (.iconst 0, 1) := by decide +kernel
theorem dX12_hasText_21 : decode cX12_hasText 21 = .ok (.ireturn, 1) := by decide +kernel
theorem ch_cX12_head_0 : (cX12_head.data.toList.drop 0).take 36 = [42, 27, 5, 182, 0, 116, 153, 0, 19, 28, 184, 0, 99, 153, 0, 12, 29, 3, 5, 184, 0, 85, 154, 0, 10, 42, 18, 103, 182, 0, 104, 172, 29, 5, 160, 0] := by decide +kernel
theorem dX12_head_0 : decode cX12_head 0 = .ok (.aload_n 0, 1) := do_42 (rdb (p := 0) (i := 0) ch_cX12_head_0 rfl)
theorem dX12_head_1 : decode cX12_head 1 = .ok (.iload_n 1, 1) := do_27 (rdb (p := 0) (i := 1) ch_cX12_head_0 rfl)
theorem dX12_head_2 : decode cX12_head 2 = .ok (.iconst 2, 1) := do_5 (rdb (p := 0) (i := 2) ch_cX12_head_0 rfl)
theorem dX12_head_3 : decode cX12_head 3 = .ok (.invokevirtual 116, 3) := do_182 (rdb (p := 0) (i := 3) ch_cX12_head_0 rfl) (rdb (p := 0) (i := 4) ch_cX12_head_0 rfl) (rdb (p := 0) (i := 5) ch_cX12_head_0 rfl) rfl
theorem dX12_head_6 : decode cX12_head 6 = .ok (.ifCond .eq 19, 3) := do_153 (rdb (p := 0) (i := 6) ch_cX12_head_0 rfl) (rdb (p := 0) (i := 7) ch_cX12_head_0 rfl) (rdb (p := 0) (i := 8) ch_cX12_head_0 rfl) (by decide +kernel)
theorem dX12_head_9 : decode cX12_head 9 = .ok (.iload_n 2, 1) := do_28 (rdb (p := 0) (i := 9) ch_cX12_head_0 rfl)
theorem dX12_head_10 : decode cX12_head 10 = .ok (.invokestatic 99, 3) := do_184 (rdb (p := 0) (i := 10) ch_cX12_head_0 rfl) (rdb (p := 0) (i := 11) ch_cX12_head_0 rfl) (rdb (p := 0) (i := 12) ch_cX12_head_0 rfl) rfl
theorem dX12_head_13 : decode cX12_head 13 = .ok (.ifCond .eq 12, 3) := do_153 (rdb (p := 0) (i := 13) ch_cX12_head_0 rfl) (rdb (p := 0) (i := 14) ch_cX12_head_0 rfl) (rdb (p := 0) (i := 15) ch_cX12_head_0 rfl) (by decide +kernel)
theorem dX12_head_16 : decode cX12_head 16 = .ok (.iload_n 3, 1) := do_29 (rdb (p := 0) (i := 16) ch_cX12_head_0 rfl)
theorem dX12_head_17 : decode cX12_head 17 = .ok (.iconst 0, 1) := do_3 (rdb (p := 0) (i := 17) ch_cX12_head_0 rfl)
theorem dX12_head_18 : decode cX12_head 18 = .ok (.iconst 2, 1) := do_5 (rdb (p := 0) (i := 18) ch_cX12_head_0 rfl)
theorem dX12_head_19 : decode cX12_head 19 = .ok (.invokestatic 85, 3) := do_184 (rdb (p := 0) (i := 19) ch_cX12_head_0 rfl) (rdb (p := 0) (i := 20) ch_cX12_head_0 rfl) (rdb (p := 0) (i := 21) ch_cX12_head_0 rfl) rfl
theorem dX12_head_22 : decode cX12_head 22 = .ok (.ifCond .ne 10, 3) := do_154 (rdb (p := 0) (i := 22) ch_cX12_head_0 rfl) (rdb (p := 0) (i := 23) ch_cX12_head_0 rfl) (rdb (p := 0) (i := 24) ch_cX12_head_0 rfl) (by decide +kernel)
theorem dX12_head_25 : decode cX12_head 25 = .ok (.aload_n 0, 1) := do_42 (rdb (p := 0) (i := 25) ch_cX12_head_0 rfl)
theorem dX12_head_26 : decode cX12_head 26 = .ok (.ldc 103, 2) := do_18 (rdb (p := 0) (i := 26) ch_cX12_head_0 rfl) (rdb (p := 0) (i := 27) ch_cX12_head_0 rfl)
theorem dX12_head_28 : decode cX12_head 28 = .ok (.invokevirtual 104, 3) := do_182 (rdb (p := 0) (i := 28) ch_cX12_head_0 rfl) (rdb (p := 0) (i := 29) ch_cX12_head_0 rfl) (rdb (p := 0) (i := 30) ch_cX12_head_0 rfl) rfl
theorem dX12_head_31 : decode cX12_head 31 = .ok (.ireturn, 1) := do_172 (rdb (p := 0) (i := 31) ch_cX12_head_0 rfl)
theorem ch_cX12_head_32 : (cX12_head.data.toList.drop 32).take 36 = [29, 5, 160, 0, 12, 42, 27, 28, 182, 1, 13, 167, 0, 27, 42, 180, 0, 9, 29, 154, 0, 12, 42, 27, 28, 182, 0, 253, 167, 0, 9, 42, 27, 28, 182, 1] := by decide +kernel
theorem dX12_head_32 : decode cX12_head 32 = .ok (.iload_n 3, 1) := do_29 (rdb (p := 32) (i := 0) ch_cX12_head_32 rfl)
theorem dX12_head_33 : decode cX12_head 33 = .ok (.iconst 2, 1) := do_5 (rdb (p := 32) (i := 1) ch_cX12_head_32 rfl)
theorem dX12_head_34 : decode cX12_head 34 = .ok (.if_icmp .ne 12, 3) := do_160 (rdb (p := 32) (i := 2) ch_cX12_head_32 rfl) (rdb (p := 32) (i := 3) ch_cX12_head_32 rfl) (rdb (p := 32) (i := 4) ch_cX12_head_32 rfl) (by decide +kernel)
theorem dX12_head_37 : decode cX12_head 37 = .ok (.aload_n 0, 1) := do_42 (rdb (p := 32) (i := 5) ch_cX12_head_32 rfl)
theorem dX12_head_38 : decode cX12_head 38 = .ok (.iload_n 1, 1) := do_27 (rdb (p := 32) (i := 6) ch_cX12_head_32 rfl)
theorem dX12_head_39 : decode cX12_head 39 = .ok (.iload_n 2, 1) := do_28 (rdb (p := 32) (i := 7) ch_cX12_head_32 rfl)
theorem dX12_head_40 : decode cX12_head 40 = .ok (.invokevirtual 269, 3) := do_182 (rdb (p := 32) (i := 8) ch_cX12_head_32 rfl) (rdb (p := 32) (i := 9) ch_cX12_head_32 rfl) (rdb (p := 32) (i := 10) ch_cX12_head_32 rfl) rfl
theorem dX12_head_43 : decode cX12_head 43 = .ok (.goto 27, 3) := do_167 (rdb (p := 32) (i := 11) ch_cX12_head_32 rfl) (rdb (p := 32) (i := 12) ch_cX12_head_32 rfl) (rdb (p := 32) (i := 13) ch_cX12_head_32 rfl) (by decide +kernel)
theorem dX12_head_46 : decode cX12_head 46 = .ok (.aload_n 0, 1) := do_42 (rdb (p := 32) (i := 14) ch_cX12_head_32 rfl)
theorem dX12_head_47 : decode cX12_head 47 = .ok (.getfield 9, 3) := do_180 (rdb (p := 32) (i := 15) ch_cX12_head_32 rfl) (rdb (p := 32) (i := 16) ch_cX12_head_32 rfl) (rdb (p := 32) (i := 17) ch_cX12_head_32 rfl) rfl
theorem dX12_head_50 : decode cX12_head 50 = .ok (.iload_n 3, 1) := do_29 (rdb (p := 32) (i := 18) ch_cX12_head_32 rfl)
theorem dX12_head_51 : decode cX12_head 51 = .ok (.ifCond .ne 12, 3) := do_154 (rdb (p := 32) (i := 19) ch_cX12_head_32 rfl) (rdb (p := 32) (i := 20) ch_cX12_head_32 rfl) (rdb (p := 32) (i := 21) ch_cX12_head_32 rfl) (by decide +kernel)
theorem dX12_head_54 : decode cX12_head 54 = .ok (.aload_n 0, 1) := do_42 (rdb (p := 32) (i := 22) ch_cX12_head_32 rfl)
theorem dX12_head_55 : decode cX12_head 55 = .ok (.iload_n 1, 1) := do_27 (rdb (p := 32) (i := 23) ch_cX12_head_32 rfl)
theorem dX12_head_56 : decode cX12_head 56 = .ok (.iload_n 2, 1) := do_28 (rdb (p := 32) (i := 24) ch_cX12_head_32 rfl)
theorem dX12_head_57 : decode cX12_head 57 = .ok (.invokevirtual 253, 3) := do_182 (rdb (p := 32) (i := 25) ch_cX12_head_32 rfl) (rdb (p := 32) (i := 26) ch_cX12_head_32 rfl) (rdb (p := 32) (i := 27) ch_cX12_head_32 rfl) rfl
theorem dX12_head_60 : decode cX12_head 60 = .ok (.goto 9, 3) := do_167 (rdb (p := 32) (i := 28) ch_cX12_head_32 rfl) (rdb (p := 32) (i := 29) ch_cX12_head_32 rfl) (rdb (p := 32) (i := 30) ch_cX12_head_32 rfl) (by decide +kernel)
theorem dX12_head_63 : decode cX12_head 63 = .ok (.aload_n 0, 1) := do_42 (rdb (p := 32) (i := 31) ch_cX12_head_32 rfl)
theorem ch_cX12_head_64 : (cX12_head.data.toList.drop 64).take 36 = [27, 28, 182, 1, 3, 46, 172] := by decide +kernel
theorem dX12_head_64 : decode cX12_head 64 = .ok (.iload_n 1, 1) := do_27 (rdb (p := 64) (i := 0) ch_cX12_head_64 rfl)
theorem dX12_head_65 : decode cX12_head 65 = .ok (.iload_n 2, 1) := do_28 (rdb (p := 64) (i := 1) ch_cX12_head_64 rfl)
theorem dX12_head_66 : decode cX12_head 66 = .ok (.invokevirtual 259, 3) := do_182 (rdb (p := 64) (i := 2) ch_cX12_head_64 rfl) (rdb (p := 64) (i := 3) ch_cX12_head_64 rfl) (rdb (p := 64) (i := 4) ch_cX12_head_64 rfl) rfl
theorem dX12_head_69 : decode cX12_head 69 = .ok (.iaload, 1) := do_46 (rdb (p := 64) (i := 5) ch_cX12_head_64 rfl)
theorem dX12_head_70 : decode cX12_head 70 = .ok (.ireturn, 1) := do_172 (rdb (p := 64) (i := 6) ch_cX12_head_64 rfl)
theorem ch_cX12_heads_0 : (cX12_heads.data.toList.drop 0).take 36 = [42, 27, 5, 182, 0, 116, 153, 0, 12, 28, 3, 6, 184, 0, 85, 154, 0, 10, 42, 18, 103, 182, 0, 104, 172, 3, 62, 3, 54, 4, 21, 4, 17, 0, 192, 162] := by decide +kernel
theorem dX12_heads_0 : decode cX12_heads 0 = .ok (.aload_n 0, 1) := do_42 (rdb (p := 0) (i := 0) ch_cX12_heads_0 rfl)
theorem dX12_heads_1 : decode cX12_heads 1 = .ok (.iload_n 1, 1) := do_27 (rdb (p := 0) (i := 1) ch_cX12_heads_0 rfl)
theorem dX12_heads_2 : decode cX12_heads 2 = .ok (.iconst 2, 1) := do_5 (rdb (p := 0) (i := 2) ch_cX12_heads_0 rfl)
theorem dX12_heads_3 : decode cX12_heads 3 = .ok (.invokevirtual 116, 3) := do_182 (rdb (p := 0) (i := 3) ch_cX12_heads_0 rfl) (rdb (p := 0) (i := 4) ch_cX12_heads_0 rfl) (rdb (p := 0) (i := 5) ch_cX12_heads_0 rfl) rfl
theorem dX12_heads_6 : decode cX12_heads 6 = .ok (.ifCond .eq 12, 3) := do_153 (rdb (p := 0) (i := 6) ch_cX12_heads_0 rfl) (rdb (p := 0) (i := 7) ch_cX12_heads_0 rfl) (rdb (p := 0) (i := 8) ch_cX12_heads_0 rfl) (by decide +kernel)
theorem dX12_heads_9 : decode cX12_heads 9 = .ok (.iload_n 2, 1) := do_28 (rdb (p := 0) (i := 9) ch_cX12_heads_0 rfl)
theorem dX12_heads_10 : decode cX12_heads 10 = .ok (.iconst 0, 1) := do_3 (rdb (p := 0) (i := 10) ch_cX12_heads_0 rfl)
theorem dX12_heads_11 : decode cX12_heads 11 = .ok (.iconst 3, 1) := do_6 (rdb (p := 0) (i := 11) ch_cX12_heads_0 rfl)
theorem dX12_heads_12 : decode cX12_heads 12 = .ok (.invokestatic 85, 3) := do_184 (rdb (p := 0) (i := 12) ch_cX12_heads_0 rfl) (rdb (p := 0) (i := 13) ch_cX12_heads_0 rfl) (rdb (p := 0) (i := 14) ch_cX12_heads_0 rfl) rfl
theorem dX12_heads_15 : decode cX12_heads 15 = .ok (.ifCond .ne 10, 3) := do_154 (rdb (p := 0) (i := 15) ch_cX12_heads_0 rfl) (rdb (p := 0) (i := 16) ch_cX12_heads_0 rfl) (rdb (p := 0) (i := 17) ch_cX12_heads_0 rfl) (by decide +kernel)
theorem dX12_heads_18 : decode cX12_heads 18 = .ok (.aload_n 0, 1) := do_42 (rdb (p := 0) (i := 18) ch_cX12_heads_0 rfl)
theorem dX12_heads_19 : decode cX12_heads 19 = .ok (.ldc 103, 2) := do_18 (rdb (p := 0) (i := 19) ch_cX12_heads_0 rfl) (rdb (p := 0) (i := 20) ch_cX12_heads_0 rfl)
theorem dX12_heads_21 : decode cX12_heads 21 = .ok (.invokevirtual 104, 3) := do_182 (rdb (p := 0) (i := 21) ch_cX12_heads_0 rfl) (rdb (p := 0) (i := 22) ch_cX12_heads_0 rfl) (rdb (p := 0) (i := 23) ch_cX12_heads_0 rfl) rfl
theorem dX12_heads_24 : decode cX12_heads 24 = .ok (.ireturn, 1) := do_172 (rdb (p := 0) (i := 24) ch_cX12_heads_0 rfl)
theorem dX12_heads_25 : decode cX12_heads 25 = .ok (.iconst 0, 1) := do_3 (rdb (p := 0) (i := 25) ch_cX12_heads_0 rfl)
theorem dX12_heads_26 : decode cX12_heads 26 = .ok (.istore_n 3, 1) := do_62 (rdb (p := 0) (i := 26) ch_cX12_heads_0 rfl)
theorem dX12_heads_27 : decode cX12_heads 27 = .ok (.iconst 0, 1) := do_3 (rdb (p := 0) (i := 27) ch_cX12_heads_0 rfl)
theorem dX12_heads_28 : decode cX12_heads 28 = .ok (.istore 4, 2) := do_54 (rdb (p := 0) (i := 28) ch_cX12_heads_0 rfl) (rdb (p := 0) (i := 29) ch_cX12_heads_0 rfl)
theorem dX12_heads_30 : decode cX12_heads 30 = .ok (.iload 4, 2) := do_21 (rdb (p := 0) (i := 30) ch_cX12_heads_0 rfl) (rdb (p := 0) (i := 31) ch_cX12_heads_0 rfl)
theorem ch_cX12_heads_32 : (cX12_heads.data.toList.drop 32).take 36 = [17, 0, 192, 162, 0, 93, 42, 27, 21, 4, 182, 1, 13, 54, 5, 21, 4, 42, 180, 0, 9, 42, 27, 182, 0, 93, 4, 96, 46, 159, 0, 12, 42, 21, 4, 182] := by decide +kernel
theorem dX12_heads_32 : decode cX12_heads 32 = .ok (.sipush 192, 3) := do_17 (rdb (p := 32) (i := 0) ch_cX12_heads_32 rfl) (rdb (p := 32) (i := 1) ch_cX12_heads_32 rfl) (rdb (p := 32) (i := 2) ch_cX12_heads_32 rfl) (by decide +kernel)
theorem dX12_heads_35 : decode cX12_heads 35 = .ok (.if_icmp .ge 93, 3) := do_162 (rdb (p := 32) (i := 3) ch_cX12_heads_32 rfl) (rdb (p := 32) (i := 4) ch_cX12_heads_32 rfl) (rdb (p := 32) (i := 5) ch_cX12_heads_32 rfl) (by decide +kernel)
theorem dX12_heads_38 : decode cX12_heads 38 = .ok (.aload_n 0, 1) := do_42 (rdb (p := 32) (i := 6) ch_cX12_heads_32 rfl)
theorem dX12_heads_39 : decode cX12_heads 39 = .ok (.iload_n 1, 1) := do_27 (rdb (p := 32) (i := 7) ch_cX12_heads_32 rfl)
theorem dX12_heads_40 : decode cX12_heads 40 = .ok (.iload 4, 2) := do_21 (rdb (p := 32) (i := 8) ch_cX12_heads_32 rfl) (rdb (p := 32) (i := 9) ch_cX12_heads_32 rfl)
theorem dX12_heads_42 : decode cX12_heads 42 = .ok (.invokevirtual 269, 3) := do_182 (rdb (p := 32) (i := 10) ch_cX12_heads_32 rfl) (rdb (p := 32) (i := 11) ch_cX12_heads_32 rfl) (rdb (p := 32) (i := 12) ch_cX12_heads_32 rfl) rfl
theorem dX12_heads_45 : decode cX12_heads 45 = .ok (.istore 5, 2) := do_54 (rdb (p := 32) (i := 13) ch_cX12_heads_32 rfl) (rdb (p := 32) (i := 14) ch_cX12_heads_32 rfl)
theorem dX12_heads_47 : decode cX12_heads 47 = .ok (.iload 4, 2) := do_21 (rdb (p := 32) (i := 15) ch_cX12_heads_32 rfl) (rdb (p := 32) (i := 16) ch_cX12_heads_32 rfl)
theorem dX12_heads_49 : decode cX12_heads 49 = .ok (.aload_n 0, 1) := do_42 (rdb (p := 32) (i := 17) ch_cX12_heads_32 rfl)
theorem dX12_heads_50 : decode cX12_heads 50 = .ok (.getfield 9, 3) := do_180 (rdb (p := 32) (i := 18) ch_cX12_heads_32 rfl) (rdb (p := 32) (i := 19) ch_cX12_heads_32 rfl) (rdb (p := 32) (i := 20) ch_cX12_heads_32 rfl) rfl
theorem dX12_heads_53 : decode cX12_heads 53 = .ok (.aload_n 0, 1) := do_42 (rdb (p := 32) (i := 21) ch_cX12_heads_32 rfl)
theorem dX12_heads_54 : decode cX12_heads 54 = .ok (.iload_n 1, 1) := do_27 (rdb (p := 32) (i := 22) ch_cX12_heads_32 rfl)
theorem dX12_heads_55 : decode cX12_heads 55 = .ok (.invokevirtual 93, 3) := do_182 (rdb (p := 32) (i := 23) ch_cX12_heads_32 rfl) (rdb (p := 32) (i := 24) ch_cX12_heads_32 rfl) (rdb (p := 32) (i := 25) ch_cX12_heads_32 rfl) rfl
theorem dX12_heads_58 : decode cX12_heads 58 = .ok (.iconst 1, 1) := do_4 (rdb (p := 32) (i := 26) ch_cX12_heads_32 rfl)
theorem dX12_heads_59 : decode cX12_heads 59 = .ok (.iadd, 1) := do_96 (rdb (p := 32) (i := 27) ch_cX12_heads_32 rfl)
theorem dX12_heads_60 : decode cX12_heads 60 = .ok (.iaload, 1) := do_46 (rdb (p := 32) (i := 28) ch_cX12_heads_32 rfl)
theorem dX12_heads_61 : decode cX12_heads 61 = .ok (.if_icmp .eq 12, 3) := do_159 (rdb (p := 32) (i := 29) ch_cX12_heads_32 rfl) (rdb (p := 32) (i := 30) ch_cX12_heads_32 rfl) (rdb (p := 32) (i := 31) ch_cX12_heads_32 rfl) (by decide +kernel)
theorem ch_cX12_heads_64 : (cX12_heads.data.toList.drop 64).take 36 = [42, 21, 4, 182, 0, 107, 153, 0, 7, 4, 167, 0, 4, 3, 54, 6, 29, 28, 6, 162, 0, 12, 21, 5, 28, 160, 0, 30, 167, 0, 23, 21, 5, 158, 0, 22] := by decide +kernel
theorem dX12_heads_64 : decode cX12_heads 64 = .ok (.aload_n 0, 1) := do_42 (rdb (p := 64) (i := 0) ch_cX12_heads_64 rfl)
theorem dX12_heads_65 : decode cX12_heads 65 = .ok (.iload 4, 2) := do_21 (rdb (p := 64) (i := 1) ch_cX12_heads_64 rfl) (rdb (p := 64) (i := 2) ch_cX12_heads_64 rfl)
theorem dX12_heads_67 : decode cX12_heads 67 = .ok (.invokevirtual 107, 3) := do_182 (rdb (p := 64) (i := 3) ch_cX12_heads_64 rfl) (rdb (p := 64) (i := 4) ch_cX12_heads_64 rfl) (rdb (p := 64) (i := 5) ch_cX12_heads_64 rfl) rfl
theorem dX12_heads_70 : decode cX12_heads 70 = .ok (.ifCond .eq 7, 3) := do_153 (rdb (p := 64) (i := 6) ch_cX12_heads_64 rfl) (rdb (p := 64) (i := 7) ch_cX12_heads_64 rfl) (rdb (p := 64) (i := 8) ch_cX12_heads_64 rfl) (by decide +kernel)
theorem dX12_heads_73 : decode cX12_heads 73 = .ok (.iconst 1, 1) := do_4 (rdb (p := 64) (i := 9) ch_cX12_heads_64 rfl)
theorem dX12_heads_74 : decode cX12_heads 74 = .ok (.goto 4, 3) := do_167 (rdb (p := 64) (i := 10) ch_cX12_heads_64 rfl) (rdb (p := 64) (i := 11) ch_cX12_heads_64 rfl) (rdb (p := 64) (i := 12) ch_cX12_heads_64 rfl) (by decide +kernel)
theorem dX12_heads_77 : decode cX12_heads 77 = .ok (.iconst 0, 1) := do_3 (rdb (p := 64) (i := 13) ch_cX12_heads_64 rfl)
theorem dX12_heads_78 : decode cX12_heads 78 = .ok (.istore 6, 2) := do_54 (rdb (p := 64) (i := 14) ch_cX12_heads_64 rfl) (rdb (p := 64) (i := 15) ch_cX12_heads_64 rfl)
theorem dX12_heads_80 : decode cX12_heads 80 = .ok (.iload_n 3, 1) := do_29 (rdb (p := 64) (i := 16) ch_cX12_heads_64 rfl)
theorem dX12_heads_81 : decode cX12_heads 81 = .ok (.iload_n 2, 1) := do_28 (rdb (p := 64) (i := 17) ch_cX12_heads_64 rfl)
theorem dX12_heads_82 : decode cX12_heads 82 = .ok (.iconst 3, 1) := do_6 (rdb (p := 64) (i := 18) ch_cX12_heads_64 rfl)
theorem dX12_heads_83 : decode cX12_heads 83 = .ok (.if_icmp .ge 12, 3) := do_162 (rdb (p := 64) (i := 19) ch_cX12_heads_64 rfl) (rdb (p := 64) (i := 20) ch_cX12_heads_64 rfl) (rdb (p := 64) (i := 21) ch_cX12_heads_64 rfl) (by decide +kernel)
theorem dX12_heads_86 : decode cX12_heads 86 = .ok (.iload 5, 2) := do_21 (rdb (p := 64) (i := 22) ch_cX12_heads_64 rfl) (rdb (p := 64) (i := 23) ch_cX12_heads_64 rfl)
theorem dX12_heads_88 : decode cX12_heads 88 = .ok (.iload_n 2, 1) := do_28 (rdb (p := 64) (i := 24) ch_cX12_heads_64 rfl)
theorem dX12_heads_89 : decode cX12_heads 89 = .ok (.if_icmp .ne 30, 3) := do_160 (rdb (p := 64) (i := 25) ch_cX12_heads_64 rfl) (rdb (p := 64) (i := 26) ch_cX12_heads_64 rfl) (rdb (p := 64) (i := 27) ch_cX12_heads_64 rfl) (by decide +kernel)
theorem dX12_heads_92 : decode cX12_heads 92 = .ok (.goto 23, 3) := do_167 (rdb (p := 64) (i := 28) ch_cX12_heads_64 rfl) (rdb (p := 64) (i := 29) ch_cX12_heads_64 rfl) (rdb (p := 64) (i := 30) ch_cX12_heads_64 rfl) (by decide +kernel)
theorem dX12_heads_95 : decode cX12_heads 95 = .ok (.iload 5, 2) := do_21 (rdb (p := 64) (i := 31) ch_cX12_heads_64 rfl) (rdb (p := 64) (i := 32) ch_cX12_heads_64 rfl)
theorem ch_cX12_heads_96 : (cX12_heads.data.toList.drop 96).take 36 = [5, 158, 0, 22, 21, 5, 21, 6, 153, 0, 7, 5, 167, 0, 4, 4, 160, 0, 7, 4, 167, 0, 4, 3, 96, 62, 132, 4, 1, 167, 255, 161, 29, 172] := by decide +kernel
theorem dX12_heads_97 : decode cX12_heads 97 = .ok (.ifCond .le 22, 3) := do_158 (rdb (p := 96) (i := 1) ch_cX12_heads_96 rfl) (rdb (p := 96) (i := 2) ch_cX12_heads_96 rfl) (rdb (p := 96) (i := 3) ch_cX12_heads_96 rfl) (by decide +kernel)
theorem dX12_heads_100 : decode cX12_heads 100 = .ok (.iload 5, 2) := do_21 (rdb (p := 96) (i := 4) ch_cX12_heads_96 rfl) (rdb (p := 96) (i := 5) ch_cX12_heads_96 rfl)
theorem dX12_heads_102 : decode cX12_heads 102 = .ok (.iload 6, 2) := do_21 (rdb (p := 96) (i := 6) ch_cX12_heads_96 rfl) (rdb (p := 96) (i := 7) ch_cX12_heads_96 rfl)
theorem dX12_heads_104 : decode cX12_heads 104 = .ok (.ifCond .eq 7, 3) := do_153 (rdb (p := 96) (i := 8) ch_cX12_heads_96 rfl) (rdb (p := 96) (i := 9) ch_cX12_heads_96 rfl) (rdb (p := 96) (i := 10) ch_cX12_heads_96 rfl) (by decide +kernel)
theorem dX12_heads_107 : decode cX12_heads 107 = .ok (.iconst 2, 1) := do_5 (rdb (p := 96) (i := 11) ch_cX12_heads_96 rfl)
theorem dX12_heads_108 : decode cX12_heads 108 = .ok (.goto 4, 3) := do_167 (rdb (p := 96) (i := 12) ch_cX12_heads_96 rfl) (rdb (p := 96) (i := 13) ch_cX12_heads_96 rfl) (rdb (p := 96) (i := 14) ch_cX12_heads_96 rfl) (by decide +kernel)
theorem dX12_heads_111 : decode cX12_heads 111 = .ok (.iconst 1, 1) := do_4 (rdb (p := 96) (i := 15) ch_cX12_heads_96 rfl)
theorem dX12_heads_112 : decode cX12_heads 112 = .ok (.if_icmp .ne 7, 3) := do_160 (rdb (p := 96) (i := 16) ch_cX12_heads_96 rfl) (rdb (p := 96) (i := 17) ch_cX12_heads_96 rfl) (rdb (p := 96) (i := 18) ch_cX12_heads_96 rfl) (by decide +kernel)
theorem dX12_heads_115 : decode cX12_heads 115 = .ok (.iconst 1, 1) := do_4 (rdb (p := 96) (i := 19) ch_cX12_heads_96 rfl)
theorem dX12_heads_116 : decode cX12_heads 116 = .ok (.goto 4, 3) := do_167 (rdb (p := 96) (i := 20) ch_cX12_heads_96 rfl) (rdb (p := 96) (i := 21) ch_cX12_heads_96 rfl) (rdb (p := 96) (i := 22) ch_cX12_heads_96 rfl) (by decide +kernel)
theorem dX12_heads_119 : decode cX12_heads 119 = .ok (.iconst 0, 1) := do_3 (rdb (p := 96) (i := 23) ch_cX12_heads_96 rfl)
theorem dX12_heads_120 : decode cX12_heads 120 = .ok (.iadd, 1) := do_96 (rdb (p := 96) (i := 24) ch_cX12_heads_96 rfl)
theorem dX12_heads_121 : decode cX12_heads 121 = .ok (.istore_n 3, 1) := do_62 (rdb (p := 96) (i := 25) ch_cX12_heads_96 rfl)
theorem dX12_heads_122 : decode cX12_heads 122 = .ok (.iinc 4 1, 3) := do_132 (rdb (p := 96) (i := 26) ch_cX12_heads_96 rfl) (rdb (p := 96) (i := 27) ch_cX12_heads_96 rfl) (rdb (p := 96) (i := 28) ch_cX12_heads_96 rfl) (by decide +kernel)
theorem dX12_heads_125 : decode cX12_heads 125 = .ok (.goto (-95), 3) := do_167 (rdb (p := 96) (i := 29) ch_cX12_heads_96 rfl) (rdb (p := 96) (i := 30) ch_cX12_heads_96 rfl) (rdb (p := 96) (i := 31) ch_cX12_heads_96 rfl) (by decide +kernel)
theorem ch_cX12_heads_128 : (cX12_heads.data.toList.drop 128).take 36 = [29, 172] := by decide +kernel
theorem dX12_heads_128 : decode cX12_heads 128 = .ok (.iload_n 3, 1) := do_29 (rdb (p := 128) (i := 0) ch_cX12_heads_128 rfl)
theorem dX12_heads_129 : decode cX12_heads 129 = .ok (.ireturn, 1) := do_172 (rdb (p := 128) (i := 1) ch_cX12_heads_128 rfl)
theorem ch_cX12_heardFrom_0 : (cX12_heardFrom.data.toList.drop 0).take 36 = [42, 28, 29, 42, 27, 182, 0, 140, 182, 0, 240, 54, 4, 42, 27, 182, 0, 93, 54, 5, 21, 4, 158, 0, 52, 42, 42, 27, 182, 0, 143, 42, 42, 28, 29, 21] := by decide +kernel
theorem dX12_heardFrom_0 : decode cX12_heardFrom 0 = .ok (.aload_n 0, 1) := do_42 (rdb (p := 0) (i := 0) ch_cX12_heardFrom_0 rfl)
theorem dX12_heardFrom_1 : decode cX12_heardFrom 1 = .ok (.iload_n 2, 1) := do_28 (rdb (p := 0) (i := 1) ch_cX12_heardFrom_0 rfl)
theorem dX12_heardFrom_2 : decode cX12_heardFrom 2 = .ok (.iload_n 3, 1) := do_29 (rdb (p := 0) (i := 2) ch_cX12_heardFrom_0 rfl)
theorem dX12_heardFrom_3 : decode cX12_heardFrom 3 = .ok (.aload_n 0, 1) := do_42 (rdb (p := 0) (i := 3) ch_cX12_heardFrom_0 rfl)
theorem dX12_heardFrom_4 : decode cX12_heardFrom 4 = .ok (.iload_n 1, 1) := do_27 (rdb (p := 0) (i := 4) ch_cX12_heardFrom_0 rfl)
theorem dX12_heardFrom_5 : decode cX12_heardFrom 5 = .ok (.invokevirtual 140, 3) := do_182 (rdb (p := 0) (i := 5) ch_cX12_heardFrom_0 rfl) (rdb (p := 0) (i := 6) ch_cX12_heardFrom_0 rfl) (rdb (p := 0) (i := 7) ch_cX12_heardFrom_0 rfl) rfl
theorem dX12_heardFrom_8 : decode cX12_heardFrom 8 = .ok (.invokevirtual 240, 3) := do_182 (rdb (p := 0) (i := 8) ch_cX12_heardFrom_0 rfl) (rdb (p := 0) (i := 9) ch_cX12_heardFrom_0 rfl) (rdb (p := 0) (i := 10) ch_cX12_heardFrom_0 rfl) rfl
theorem dX12_heardFrom_11 : decode cX12_heardFrom 11 = .ok (.istore 4, 2) := do_54 (rdb (p := 0) (i := 11) ch_cX12_heardFrom_0 rfl) (rdb (p := 0) (i := 12) ch_cX12_heardFrom_0 rfl)
theorem dX12_heardFrom_13 : decode cX12_heardFrom 13 = .ok (.aload_n 0, 1) := do_42 (rdb (p := 0) (i := 13) ch_cX12_heardFrom_0 rfl)
theorem dX12_heardFrom_14 : decode cX12_heardFrom 14 = .ok (.iload_n 1, 1) := do_27 (rdb (p := 0) (i := 14) ch_cX12_heardFrom_0 rfl)
theorem dX12_heardFrom_15 : decode cX12_heardFrom 15 = .ok (.invokevirtual 93, 3) := do_182 (rdb (p := 0) (i := 15) ch_cX12_heardFrom_0 rfl) (rdb (p := 0) (i := 16) ch_cX12_heardFrom_0 rfl) (rdb (p := 0) (i := 17) ch_cX12_heardFrom_0 rfl) rfl
theorem dX12_heardFrom_18 : decode cX12_heardFrom 18 = .ok (.istore 5, 2) := do_54 (rdb (p := 0) (i := 18) ch_cX12_heardFrom_0 rfl) (rdb (p := 0) (i := 19) ch_cX12_heardFrom_0 rfl)
theorem dX12_heardFrom_20 : decode cX12_heardFrom 20 = .ok (.iload 4, 2) := do_21 (rdb (p := 0) (i := 20) ch_cX12_heardFrom_0 rfl) (rdb (p := 0) (i := 21) ch_cX12_heardFrom_0 rfl)
theorem dX12_heardFrom_22 : decode cX12_heardFrom 22 = .ok (.ifCond .le 52, 3) := do_158 (rdb (p := 0) (i := 22) ch_cX12_heardFrom_0 rfl) (rdb (p := 0) (i := 23) ch_cX12_heardFrom_0 rfl) (rdb (p := 0) (i := 24) ch_cX12_heardFrom_0 rfl) (by decide +kernel)
theorem dX12_heardFrom_25 : decode cX12_heardFrom 25 = .ok (.aload_n 0, 1) := do_42 (rdb (p := 0) (i := 25) ch_cX12_heardFrom_0 rfl)
theorem dX12_heardFrom_26 : decode cX12_heardFrom 26 = .ok (.aload_n 0, 1) := do_42 (rdb (p := 0) (i := 26) ch_cX12_heardFrom_0 rfl)
theorem dX12_heardFrom_27 : decode cX12_heardFrom 27 = .ok (.iload_n 1, 1) := do_27 (rdb (p := 0) (i := 27) ch_cX12_heardFrom_0 rfl)
theorem dX12_heardFrom_28 : decode cX12_heardFrom 28 = .ok (.invokevirtual 143, 3) := do_182 (rdb (p := 0) (i := 28) ch_cX12_heardFrom_0 rfl) (rdb (p := 0) (i := 29) ch_cX12_heardFrom_0 rfl) (rdb (p := 0) (i := 30) ch_cX12_heardFrom_0 rfl) rfl
theorem dX12_heardFrom_31 : decode cX12_heardFrom 31 = .ok (.aload_n 0, 1) := do_42 (rdb (p := 0) (i := 31) ch_cX12_heardFrom_0 rfl)
theorem ch_cX12_heardFrom_32 : (cX12_heardFrom.data.toList.drop 32).take 36 = [42, 28, 29, 21, 4, 182, 0, 234, 182, 0, 243, 42, 180, 0, 9, 21, 5, 6, 96, 46, 42, 180, 0, 9, 21, 5, 7, 96, 46, 29, 21, 4, 182, 0, 249, 153] := by decide +kernel
theorem dX12_heardFrom_32 : decode cX12_heardFrom 32 = .ok (.aload_n 0, 1) := do_42 (rdb (p := 32) (i := 0) ch_cX12_heardFrom_32 rfl)
theorem dX12_heardFrom_33 : decode cX12_heardFrom 33 = .ok (.iload_n 2, 1) := do_28 (rdb (p := 32) (i := 1) ch_cX12_heardFrom_32 rfl)
theorem dX12_heardFrom_34 : decode cX12_heardFrom 34 = .ok (.iload_n 3, 1) := do_29 (rdb (p := 32) (i := 2) ch_cX12_heardFrom_32 rfl)
theorem dX12_heardFrom_35 : decode cX12_heardFrom 35 = .ok (.iload 4, 2) := do_21 (rdb (p := 32) (i := 3) ch_cX12_heardFrom_32 rfl) (rdb (p := 32) (i := 4) ch_cX12_heardFrom_32 rfl)
theorem dX12_heardFrom_37 : decode cX12_heardFrom 37 = .ok (.invokevirtual 234, 3) := do_182 (rdb (p := 32) (i := 5) ch_cX12_heardFrom_32 rfl) (rdb (p := 32) (i := 6) ch_cX12_heardFrom_32 rfl) (rdb (p := 32) (i := 7) ch_cX12_heardFrom_32 rfl) rfl
theorem dX12_heardFrom_40 : decode cX12_heardFrom 40 = .ok (.invokevirtual 243, 3) := do_182 (rdb (p := 32) (i := 8) ch_cX12_heardFrom_32 rfl) (rdb (p := 32) (i := 9) ch_cX12_heardFrom_32 rfl) (rdb (p := 32) (i := 10) ch_cX12_heardFrom_32 rfl) rfl
theorem dX12_heardFrom_43 : decode cX12_heardFrom 43 = .ok (.aload_n 0, 1) := do_42 (rdb (p := 32) (i := 11) ch_cX12_heardFrom_32 rfl)
theorem dX12_heardFrom_44 : decode cX12_heardFrom 44 = .ok (.getfield 9, 3) := do_180 (rdb (p := 32) (i := 12) ch_cX12_heardFrom_32 rfl) (rdb (p := 32) (i := 13) ch_cX12_heardFrom_32 rfl) (rdb (p := 32) (i := 14) ch_cX12_heardFrom_32 rfl) rfl
theorem dX12_heardFrom_47 : decode cX12_heardFrom 47 = .ok (.iload 5, 2) := do_21 (rdb (p := 32) (i := 15) ch_cX12_heardFrom_32 rfl) (rdb (p := 32) (i := 16) ch_cX12_heardFrom_32 rfl)
theorem dX12_heardFrom_49 : decode cX12_heardFrom 49 = .ok (.iconst 3, 1) := do_6 (rdb (p := 32) (i := 17) ch_cX12_heardFrom_32 rfl)
theorem dX12_heardFrom_50 : decode cX12_heardFrom 50 = .ok (.iadd, 1) := do_96 (rdb (p := 32) (i := 18) ch_cX12_heardFrom_32 rfl)
theorem dX12_heardFrom_51 : decode cX12_heardFrom 51 = .ok (.iaload, 1) := do_46 (rdb (p := 32) (i := 19) ch_cX12_heardFrom_32 rfl)
theorem dX12_heardFrom_52 : decode cX12_heardFrom 52 = .ok (.aload_n 0, 1) := do_42 (rdb (p := 32) (i := 20) ch_cX12_heardFrom_32 rfl)
theorem dX12_heardFrom_53 : decode cX12_heardFrom 53 = .ok (.getfield 9, 3) := do_180 (rdb (p := 32) (i := 21) ch_cX12_heardFrom_32 rfl) (rdb (p := 32) (i := 22) ch_cX12_heardFrom_32 rfl) (rdb (p := 32) (i := 23) ch_cX12_heardFrom_32 rfl) rfl
theorem dX12_heardFrom_56 : decode cX12_heardFrom 56 = .ok (.iload 5, 2) := do_21 (rdb (p := 32) (i := 24) ch_cX12_heardFrom_32 rfl) (rdb (p := 32) (i := 25) ch_cX12_heardFrom_32 rfl)
theorem dX12_heardFrom_58 : decode cX12_heardFrom 58 = .ok (.iconst 4, 1) := do_7 (rdb (p := 32) (i := 26) ch_cX12_heardFrom_32 rfl)
theorem dX12_heardFrom_59 : decode cX12_heardFrom 59 = .ok (.iadd, 1) := do_96 (rdb (p := 32) (i := 27) ch_cX12_heardFrom_32 rfl)
theorem dX12_heardFrom_60 : decode cX12_heardFrom 60 = .ok (.iaload, 1) := do_46 (rdb (p := 32) (i := 28) ch_cX12_heardFrom_32 rfl)
theorem dX12_heardFrom_61 : decode cX12_heardFrom 61 = .ok (.iload_n 3, 1) := do_29 (rdb (p := 32) (i := 29) ch_cX12_heardFrom_32 rfl)
theorem dX12_heardFrom_62 : decode cX12_heardFrom 62 = .ok (.iload 4, 2) := do_21 (rdb (p := 32) (i := 30) ch_cX12_heardFrom_32 rfl) (rdb (p := 32) (i := 31) ch_cX12_heardFrom_32 rfl)
theorem ch_cX12_heardFrom_64 : (cX12_heardFrom.data.toList.drop 64).take 36 = [182, 0, 249, 153, 0, 7, 4, 167, 0, 4, 3, 54, 6, 21, 6, 153, 0, 8, 21, 4, 167, 0, 4, 3, 172] := by decide +kernel
theorem dX12_heardFrom_64 : decode cX12_heardFrom 64 = .ok (.invokevirtual 249, 3) := do_182 (rdb (p := 64) (i := 0) ch_cX12_heardFrom_64 rfl) (rdb (p := 64) (i := 1) ch_cX12_heardFrom_64 rfl) (rdb (p := 64) (i := 2) ch_cX12_heardFrom_64 rfl) rfl
theorem dX12_heardFrom_67 : decode cX12_heardFrom 67 = .ok (.ifCond .eq 7, 3) := do_153 (rdb (p := 64) (i := 3) ch_cX12_heardFrom_64 rfl) (rdb (p := 64) (i := 4) ch_cX12_heardFrom_64 rfl) (rdb (p := 64) (i := 5) ch_cX12_heardFrom_64 rfl) (by decide +kernel)
theorem dX12_heardFrom_70 : decode cX12_heardFrom 70 = .ok (.iconst 1, 1) := do_4 (rdb (p := 64) (i := 6) ch_cX12_heardFrom_64 rfl)
theorem dX12_heardFrom_71 : decode cX12_heardFrom 71 = .ok (.goto 4, 3) := do_167 (rdb (p := 64) (i := 7) ch_cX12_heardFrom_64 rfl) (rdb (p := 64) (i := 8) ch_cX12_heardFrom_64 rfl) (rdb (p := 64) (i := 9) ch_cX12_heardFrom_64 rfl) (by decide +kernel)
theorem dX12_heardFrom_74 : decode cX12_heardFrom 74 = .ok (.iconst 0, 1) := do_3 (rdb (p := 64) (i := 10) ch_cX12_heardFrom_64 rfl)
theorem dX12_heardFrom_75 : decode cX12_heardFrom 75 = .ok (.istore 6, 2) := do_54 (rdb (p := 64) (i := 11) ch_cX12_heardFrom_64 rfl) (rdb (p := 64) (i := 12) ch_cX12_heardFrom_64 rfl)
theorem dX12_heardFrom_77 : decode cX12_heardFrom 77 = .ok (.iload 6, 2) := do_21 (rdb (p := 64) (i := 13) ch_cX12_heardFrom_64 rfl) (rdb (p := 64) (i := 14) ch_cX12_heardFrom_64 rfl)
theorem dX12_heardFrom_79 : decode cX12_heardFrom 79 = .ok (.ifCond .eq 8, 3) := do_153 (rdb (p := 64) (i := 15) ch_cX12_heardFrom_64 rfl) (rdb (p := 64) (i := 16) ch_cX12_heardFrom_64 rfl) (rdb (p := 64) (i := 17) ch_cX12_heardFrom_64 rfl) (by decide +kernel)
theorem dX12_heardFrom_82 : decode cX12_heardFrom 82 = .ok (.iload 4, 2) := do_21 (rdb (p := 64) (i := 18) ch_cX12_heardFrom_64 rfl) (rdb (p := 64) (i := 19) ch_cX12_heardFrom_64 rfl)
theorem dX12_heardFrom_84 : decode cX12_heardFrom 84 = .ok (.goto 4, 3) := do_167 (rdb (p := 64) (i := 20) ch_cX12_heardFrom_64 rfl) (rdb (p := 64) (i := 21) ch_cX12_heardFrom_64 rfl) (rdb (p := 64) (i := 22) ch_cX12_heardFrom_64 rfl) (by decide +kernel)
theorem dX12_heardFrom_87 : decode cX12_heardFrom 87 = .ok (.iconst 0, 1) := do_3 (rdb (p := 64) (i := 23) ch_cX12_heardFrom_64 rfl)
theorem dX12_heardFrom_88 : decode cX12_heardFrom 88 = .ok (.ireturn, 1) := do_172 (rdb (p := 64) (i := 24) ch_cX12_heardFrom_64 rfl)
theorem ch_cX12_held_0 : (cX12_held.data.toList.drop 0).take 36 = [42, 180, 0, 9, 42, 27, 28, 182, 0, 253, 46, 62, 42, 180, 0, 9, 42, 27, 28, 182, 1, 3, 46, 54, 4, 29, 21, 4, 164, 0, 7, 5, 167, 0, 14, 21] := by decide +kernel
theorem dX12_held_0 : decode cX12_held 0 = .ok (.aload_n 0, 1) := do_42 (rdb (p := 0) (i := 0) ch_cX12_held_0 rfl)
theorem dX12_held_1 : decode cX12_held 1 = .ok (.getfield 9, 3) := do_180 (rdb (p := 0) (i := 1) ch_cX12_held_0 rfl) (rdb (p := 0) (i := 2) ch_cX12_held_0 rfl) (rdb (p := 0) (i := 3) ch_cX12_held_0 rfl) rfl
theorem dX12_held_4 : decode cX12_held 4 = .ok (.aload_n 0, 1) := do_42 (rdb (p := 0) (i := 4) ch_cX12_held_0 rfl)
theorem dX12_held_5 : decode cX12_held 5 = .ok (.iload_n 1, 1) := do_27 (rdb (p := 0) (i := 5) ch_cX12_held_0 rfl)
theorem dX12_held_6 : decode cX12_held 6 = .ok (.iload_n 2, 1) := do_28 (rdb (p := 0) (i := 6) ch_cX12_held_0 rfl)
theorem dX12_held_7 : decode cX12_held 7 = .ok (.invokevirtual 253, 3) := do_182 (rdb (p := 0) (i := 7) ch_cX12_held_0 rfl) (rdb (p := 0) (i := 8) ch_cX12_held_0 rfl) (rdb (p := 0) (i := 9) ch_cX12_held_0 rfl) rfl
theorem dX12_held_10 : decode cX12_held 10 = .ok (.iaload, 1) := do_46 (rdb (p := 0) (i := 10) ch_cX12_held_0 rfl)
theorem dX12_held_11 : decode cX12_held 11 = .ok (.istore_n 3, 1) := do_62 (rdb (p := 0) (i := 11) ch_cX12_held_0 rfl)
theorem dX12_held_12 : decode cX12_held 12 = .ok (.aload_n 0, 1) := do_42 (rdb (p := 0) (i := 12) ch_cX12_held_0 rfl)
theorem dX12_held_13 : decode cX12_held 13 = .ok (.getfield 9, 3) := do_180 (rdb (p := 0) (i := 13) ch_cX12_held_0 rfl) (rdb (p := 0) (i := 14) ch_cX12_held_0 rfl) (rdb (p := 0) (i := 15) ch_cX12_held_0 rfl) rfl
theorem dX12_held_16 : decode cX12_held 16 = .ok (.aload_n 0, 1) := do_42 (rdb (p := 0) (i := 16) ch_cX12_held_0 rfl)
theorem dX12_held_17 : decode cX12_held 17 = .ok (.iload_n 1, 1) := do_27 (rdb (p := 0) (i := 17) ch_cX12_held_0 rfl)
theorem dX12_held_18 : decode cX12_held 18 = .ok (.iload_n 2, 1) := do_28 (rdb (p := 0) (i := 18) ch_cX12_held_0 rfl)
theorem dX12_held_19 : decode cX12_held 19 = .ok (.invokevirtual 259, 3) := do_182 (rdb (p := 0) (i := 19) ch_cX12_held_0 rfl) (rdb (p := 0) (i := 20) ch_cX12_held_0 rfl) (rdb (p := 0) (i := 21) ch_cX12_held_0 rfl) rfl
theorem dX12_held_22 : decode cX12_held 22 = .ok (.iaload, 1) := do_46 (rdb (p := 0) (i := 22) ch_cX12_held_0 rfl)
theorem dX12_held_23 : decode cX12_held 23 = .ok (.istore 4, 2) := do_54 (rdb (p := 0) (i := 23) ch_cX12_held_0 rfl) (rdb (p := 0) (i := 24) ch_cX12_held_0 rfl)
theorem dX12_held_25 : decode cX12_held 25 = .ok (.iload_n 3, 1) := do_29 (rdb (p := 0) (i := 25) ch_cX12_held_0 rfl)
theorem dX12_held_26 : decode cX12_held 26 = .ok (.iload 4, 2) := do_21 (rdb (p := 0) (i := 26) ch_cX12_held_0 rfl) (rdb (p := 0) (i := 27) ch_cX12_held_0 rfl)
theorem dX12_held_28 : decode cX12_held 28 = .ok (.if_icmp .le 7, 3) := do_164 (rdb (p := 0) (i := 28) ch_cX12_held_0 rfl) (rdb (p := 0) (i := 29) ch_cX12_held_0 rfl) (rdb (p := 0) (i := 30) ch_cX12_held_0 rfl) (by decide +kernel)
theorem dX12_held_31 : decode cX12_held 31 = .ok (.iconst 2, 1) := do_5 (rdb (p := 0) (i := 31) ch_cX12_held_0 rfl)
theorem ch_cX12_held_32 : (cX12_held.data.toList.drop 32).take 36 = [167, 0, 14, 21, 4, 29, 164, 0, 7, 4, 167, 0, 4, 3, 172] := by decide +kernel
theorem dX12_held_32 : decode cX12_held 32 = .ok (.goto 14, 3) := do_167 (rdb (p := 32) (i := 0) ch_cX12_held_32 rfl) (rdb (p := 32) (i := 1) ch_cX12_held_32 rfl) (rdb (p := 32) (i := 2) ch_cX12_held_32 rfl) (by decide +kernel)
theorem dX12_held_35 : decode cX12_held 35 = .ok (.iload 4, 2) := do_21 (rdb (p := 32) (i := 3) ch_cX12_held_32 rfl) (rdb (p := 32) (i := 4) ch_cX12_held_32 rfl)
theorem dX12_held_37 : decode cX12_held 37 = .ok (.iload_n 3, 1) := do_29 (rdb (p := 32) (i := 5) ch_cX12_held_32 rfl)
theorem dX12_held_38 : decode cX12_held 38 = .ok (.if_icmp .le 7, 3) := do_164 (rdb (p := 32) (i := 6) ch_cX12_held_32 rfl) (rdb (p := 32) (i := 7) ch_cX12_held_32 rfl) (rdb (p := 32) (i := 8) ch_cX12_held_32 rfl) (by decide +kernel)
theorem dX12_held_41 : decode cX12_held 41 = .ok (.iconst 1, 1) := do_4 (rdb (p := 32) (i := 9) ch_cX12_held_32 rfl)
theorem dX12_held_42 : decode cX12_held 42 = .ok (.goto 4, 3) := do_167 (rdb (p := 32) (i := 10) ch_cX12_held_32 rfl) (rdb (p := 32) (i := 11) ch_cX12_held_32 rfl) (rdb (p := 32) (i := 12) ch_cX12_held_32 rfl) (by decide +kernel)
theorem dX12_held_45 : decode cX12_held 45 = .ok (.iconst 0, 1) := do_3 (rdb (p := 32) (i := 13) ch_cX12_held_32 rfl)
theorem dX12_held_46 : decode cX12_held 46 = .ok (.ireturn, 1) := do_172 (rdb (p := 32) (i := 14) ch_cX12_held_32 rfl)
theorem ch_cX12_isHeard_0 : (cX12_isHeard.data.toList.drop 0).take 36 = [21, 5, 21, 6, 184, 0, 227, 54, 7, 42, 28, 29, 21, 4, 21, 6, 182, 0, 230, 54, 8, 29, 27, 163, 0, 20, 21, 7, 42, 180, 0, 9, 16, 7, 46, 164] := by decide +kernel
theorem dX12_isHeard_0 : decode cX12_isHeard 0 = .ok (.iload 5, 2) := do_21 (rdb (p := 0) (i := 0) ch_cX12_isHeard_0 rfl) (rdb (p := 0) (i := 1) ch_cX12_isHeard_0 rfl)
theorem dX12_isHeard_2 : decode cX12_isHeard 2 = .ok (.iload 6, 2) := do_21 (rdb (p := 0) (i := 2) ch_cX12_isHeard_0 rfl) (rdb (p := 0) (i := 3) ch_cX12_isHeard_0 rfl)
theorem dX12_isHeard_4 : decode cX12_isHeard 4 = .ok (.invokestatic 227, 3) := do_184 (rdb (p := 0) (i := 4) ch_cX12_isHeard_0 rfl) (rdb (p := 0) (i := 5) ch_cX12_isHeard_0 rfl) (rdb (p := 0) (i := 6) ch_cX12_isHeard_0 rfl) rfl
theorem dX12_isHeard_7 : decode cX12_isHeard 7 = .ok (.istore 7, 2) := do_54 (rdb (p := 0) (i := 7) ch_cX12_isHeard_0 rfl) (rdb (p := 0) (i := 8) ch_cX12_isHeard_0 rfl)
theorem dX12_isHeard_9 : decode cX12_isHeard 9 = .ok (.aload_n 0, 1) := do_42 (rdb (p := 0) (i := 9) ch_cX12_isHeard_0 rfl)
theorem dX12_isHeard_10 : decode cX12_isHeard 10 = .ok (.iload_n 2, 1) := do_28 (rdb (p := 0) (i := 10) ch_cX12_isHeard_0 rfl)
theorem dX12_isHeard_11 : decode cX12_isHeard 11 = .ok (.iload_n 3, 1) := do_29 (rdb (p := 0) (i := 11) ch_cX12_isHeard_0 rfl)
theorem dX12_isHeard_12 : decode cX12_isHeard 12 = .ok (.iload 4, 2) := do_21 (rdb (p := 0) (i := 12) ch_cX12_isHeard_0 rfl) (rdb (p := 0) (i := 13) ch_cX12_isHeard_0 rfl)
theorem dX12_isHeard_14 : decode cX12_isHeard 14 = .ok (.iload 6, 2) := do_21 (rdb (p := 0) (i := 14) ch_cX12_isHeard_0 rfl) (rdb (p := 0) (i := 15) ch_cX12_isHeard_0 rfl)
theorem dX12_isHeard_16 : decode cX12_isHeard 16 = .ok (.invokevirtual 230, 3) := do_182 (rdb (p := 0) (i := 16) ch_cX12_isHeard_0 rfl) (rdb (p := 0) (i := 17) ch_cX12_isHeard_0 rfl) (rdb (p := 0) (i := 18) ch_cX12_isHeard_0 rfl) rfl
theorem dX12_isHeard_19 : decode cX12_isHeard 19 = .ok (.istore 8, 2) := do_54 (rdb (p := 0) (i := 19) ch_cX12_isHeard_0 rfl) (rdb (p := 0) (i := 20) ch_cX12_isHeard_0 rfl)
theorem dX12_isHeard_21 : decode cX12_isHeard 21 = .ok (.iload_n 3, 1) := do_29 (rdb (p := 0) (i := 21) ch_cX12_isHeard_0 rfl)
theorem dX12_isHeard_22 : decode cX12_isHeard 22 = .ok (.iload_n 1, 1) := do_27 (rdb (p := 0) (i := 22) ch_cX12_isHeard_0 rfl)
theorem dX12_isHeard_23 : decode cX12_isHeard 23 = .ok (.if_icmp .gt 20, 3) := do_163 (rdb (p := 0) (i := 23) ch_cX12_isHeard_0 rfl) (rdb (p := 0) (i := 24) ch_cX12_isHeard_0 rfl) (rdb (p := 0) (i := 25) ch_cX12_isHeard_0 rfl) (by decide +kernel)
theorem dX12_isHeard_26 : decode cX12_isHeard 26 = .ok (.iload 7, 2) := do_21 (rdb (p := 0) (i := 26) ch_cX12_isHeard_0 rfl) (rdb (p := 0) (i := 27) ch_cX12_isHeard_0 rfl)
theorem dX12_isHeard_28 : decode cX12_isHeard 28 = .ok (.aload_n 0, 1) := do_42 (rdb (p := 0) (i := 28) ch_cX12_isHeard_0 rfl)
theorem dX12_isHeard_29 : decode cX12_isHeard 29 = .ok (.getfield 9, 3) := do_180 (rdb (p := 0) (i := 29) ch_cX12_isHeard_0 rfl) (rdb (p := 0) (i := 30) ch_cX12_isHeard_0 rfl) (rdb (p := 0) (i := 31) ch_cX12_isHeard_0 rfl) rfl
theorem ch_cX12_isHeard_32 : (cX12_isHeard.data.toList.drop 32).take 36 = [16, 7, 46, 164, 0, 8, 21, 8, 154, 0, 5, 3, 172, 42, 180, 0, 47, 3, 21, 8, 79, 42, 180, 0, 47, 4, 42, 180, 0, 9, 16, 6, 46, 79, 42, 180] := by decide +kernel
theorem dX12_isHeard_32 : decode cX12_isHeard 32 = .ok (.bipush 7, 2) := do_16 (rdb (p := 32) (i := 0) ch_cX12_isHeard_32 rfl) (rdb (p := 32) (i := 1) ch_cX12_isHeard_32 rfl) (by decide +kernel)
theorem dX12_isHeard_34 : decode cX12_isHeard 34 = .ok (.iaload, 1) := do_46 (rdb (p := 32) (i := 2) ch_cX12_isHeard_32 rfl)
theorem dX12_isHeard_35 : decode cX12_isHeard 35 = .ok (.if_icmp .le 8, 3) := do_164 (rdb (p := 32) (i := 3) ch_cX12_isHeard_32 rfl) (rdb (p := 32) (i := 4) ch_cX12_isHeard_32 rfl) (rdb (p := 32) (i := 5) ch_cX12_isHeard_32 rfl) (by decide +kernel)
theorem dX12_isHeard_38 : decode cX12_isHeard 38 = .ok (.iload 8, 2) := do_21 (rdb (p := 32) (i := 6) ch_cX12_isHeard_32 rfl) (rdb (p := 32) (i := 7) ch_cX12_isHeard_32 rfl)
theorem dX12_isHeard_40 : decode cX12_isHeard 40 = .ok (.ifCond .ne 5, 3) := do_154 (rdb (p := 32) (i := 8) ch_cX12_isHeard_32 rfl) (rdb (p := 32) (i := 9) ch_cX12_isHeard_32 rfl) (rdb (p := 32) (i := 10) ch_cX12_isHeard_32 rfl) (by decide +kernel)
theorem dX12_isHeard_43 : decode cX12_isHeard 43 = .ok (.iconst 0, 1) := do_3 (rdb (p := 32) (i := 11) ch_cX12_isHeard_32 rfl)
theorem dX12_isHeard_44 : decode cX12_isHeard 44 = .ok (.ireturn, 1) := do_172 (rdb (p := 32) (i := 12) ch_cX12_isHeard_32 rfl)
theorem dX12_isHeard_45 : decode cX12_isHeard 45 = .ok (.aload_n 0, 1) := do_42 (rdb (p := 32) (i := 13) ch_cX12_isHeard_32 rfl)
theorem dX12_isHeard_46 : decode cX12_isHeard 46 = .ok (.getfield 47, 3) := do_180 (rdb (p := 32) (i := 14) ch_cX12_isHeard_32 rfl) (rdb (p := 32) (i := 15) ch_cX12_isHeard_32 rfl) (rdb (p := 32) (i := 16) ch_cX12_isHeard_32 rfl) rfl
theorem dX12_isHeard_49 : decode cX12_isHeard 49 = .ok (.iconst 0, 1) := do_3 (rdb (p := 32) (i := 17) ch_cX12_isHeard_32 rfl)
theorem dX12_isHeard_50 : decode cX12_isHeard 50 = .ok (.iload 8, 2) := do_21 (rdb (p := 32) (i := 18) ch_cX12_isHeard_32 rfl) (rdb (p := 32) (i := 19) ch_cX12_isHeard_32 rfl)
theorem dX12_isHeard_52 : decode cX12_isHeard 52 = .ok (.iastore, 1) := do_79 (rdb (p := 32) (i := 20) ch_cX12_isHeard_32 rfl)
theorem dX12_isHeard_53 : decode cX12_isHeard 53 = .ok (.aload_n 0, 1) := do_42 (rdb (p := 32) (i := 21) ch_cX12_isHeard_32 rfl)
theorem dX12_isHeard_54 : decode cX12_isHeard 54 = .ok (.getfield 47, 3) := do_180 (rdb (p := 32) (i := 22) ch_cX12_isHeard_32 rfl) (rdb (p := 32) (i := 23) ch_cX12_isHeard_32 rfl) (rdb (p := 32) (i := 24) ch_cX12_isHeard_32 rfl) rfl
theorem dX12_isHeard_57 : decode cX12_isHeard 57 = .ok (.iconst 1, 1) := do_4 (rdb (p := 32) (i := 25) ch_cX12_isHeard_32 rfl)
theorem dX12_isHeard_58 : decode cX12_isHeard 58 = .ok (.aload_n 0, 1) := do_42 (rdb (p := 32) (i := 26) ch_cX12_isHeard_32 rfl)
theorem dX12_isHeard_59 : decode cX12_isHeard 59 = .ok (.getfield 9, 3) := do_180 (rdb (p := 32) (i := 27) ch_cX12_isHeard_32 rfl) (rdb (p := 32) (i := 28) ch_cX12_isHeard_32 rfl) (rdb (p := 32) (i := 29) ch_cX12_isHeard_32 rfl) rfl
theorem dX12_isHeard_62 : decode cX12_isHeard 62 = .ok (.bipush 6, 2) := do_16 (rdb (p := 32) (i := 30) ch_cX12_isHeard_32 rfl) (rdb (p := 32) (i := 31) ch_cX12_isHeard_32 rfl) (by decide +kernel)
theorem ch_cX12_isHeard_64 : (cX12_isHeard.data.toList.drop 64).take 36 = [46, 79, 42, 180, 0, 47, 5, 21, 7, 79, 42, 4, 182, 0, 213, 153, 0, 19, 42, 4, 182, 0, 216, 153, 0, 7, 4, 167, 0, 24, 3, 167, 0, 20, 21, 8] := by decide +kernel
theorem dX12_isHeard_64 : decode cX12_isHeard 64 = .ok (.iaload, 1) := do_46 (rdb (p := 64) (i := 0) ch_cX12_isHeard_64 rfl)
theorem dX12_isHeard_65 : decode cX12_isHeard 65 = .ok (.iastore, 1) := do_79 (rdb (p := 64) (i := 1) ch_cX12_isHeard_64 rfl)
theorem dX12_isHeard_66 : decode cX12_isHeard 66 = .ok (.aload_n 0, 1) := do_42 (rdb (p := 64) (i := 2) ch_cX12_isHeard_64 rfl)
theorem dX12_isHeard_67 : decode cX12_isHeard 67 = .ok (.getfield 47, 3) := do_180 (rdb (p := 64) (i := 3) ch_cX12_isHeard_64 rfl) (rdb (p := 64) (i := 4) ch_cX12_isHeard_64 rfl) (rdb (p := 64) (i := 5) ch_cX12_isHeard_64 rfl) rfl
theorem dX12_isHeard_70 : decode cX12_isHeard 70 = .ok (.iconst 2, 1) := do_5 (rdb (p := 64) (i := 6) ch_cX12_isHeard_64 rfl)
theorem dX12_isHeard_71 : decode cX12_isHeard 71 = .ok (.iload 7, 2) := do_21 (rdb (p := 64) (i := 7) ch_cX12_isHeard_64 rfl) (rdb (p := 64) (i := 8) ch_cX12_isHeard_64 rfl)
theorem dX12_isHeard_73 : decode cX12_isHeard 73 = .ok (.iastore, 1) := do_79 (rdb (p := 64) (i := 9) ch_cX12_isHeard_64 rfl)
theorem dX12_isHeard_74 : decode cX12_isHeard 74 = .ok (.aload_n 0, 1) := do_42 (rdb (p := 64) (i := 10) ch_cX12_isHeard_64 rfl)
theorem dX12_isHeard_75 : decode cX12_isHeard 75 = .ok (.iconst 1, 1) := do_4 (rdb (p := 64) (i := 11) ch_cX12_isHeard_64 rfl)
theorem dX12_isHeard_76 : decode cX12_isHeard 76 = .ok (.invokevirtual 213, 3) := do_182 (rdb (p := 64) (i := 12) ch_cX12_isHeard_64 rfl) (rdb (p := 64) (i := 13) ch_cX12_isHeard_64 rfl) (rdb (p := 64) (i := 14) ch_cX12_isHeard_64 rfl) rfl
theorem dX12_isHeard_79 : decode cX12_isHeard 79 = .ok (.ifCond .eq 19, 3) := do_153 (rdb (p := 64) (i := 15) ch_cX12_isHeard_64 rfl) (rdb (p := 64) (i := 16) ch_cX12_isHeard_64 rfl) (rdb (p := 64) (i := 17) ch_cX12_isHeard_64 rfl) (by decide +kernel)
theorem dX12_isHeard_82 : decode cX12_isHeard 82 = .ok (.aload_n 0, 1) := do_42 (rdb (p := 64) (i := 18) ch_cX12_isHeard_64 rfl)
theorem dX12_isHeard_83 : decode cX12_isHeard 83 = .ok (.iconst 1, 1) := do_4 (rdb (p := 64) (i := 19) ch_cX12_isHeard_64 rfl)
theorem dX12_isHeard_84 : decode cX12_isHeard 84 = .ok (.invokevirtual 216, 3) := do_182 (rdb (p := 64) (i := 20) ch_cX12_isHeard_64 rfl) (rdb (p := 64) (i := 21) ch_cX12_isHeard_64 rfl) (rdb (p := 64) (i := 22) ch_cX12_isHeard_64 rfl) rfl
theorem dX12_isHeard_87 : decode cX12_isHeard 87 = .ok (.ifCond .eq 7, 3) := do_153 (rdb (p := 64) (i := 23) ch_cX12_isHeard_64 rfl) (rdb (p := 64) (i := 24) ch_cX12_isHeard_64 rfl) (rdb (p := 64) (i := 25) ch_cX12_isHeard_64 rfl) (by decide +kernel)
theorem dX12_isHeard_90 : decode cX12_isHeard 90 = .ok (.iconst 1, 1) := do_4 (rdb (p := 64) (i := 26) ch_cX12_isHeard_64 rfl)
theorem dX12_isHeard_91 : decode cX12_isHeard 91 = .ok (.goto 24, 3) := do_167 (rdb (p := 64) (i := 27) ch_cX12_isHeard_64 rfl) (rdb (p := 64) (i := 28) ch_cX12_isHeard_64 rfl) (rdb (p := 64) (i := 29) ch_cX12_isHeard_64 rfl) (by decide +kernel)
theorem dX12_isHeard_94 : decode cX12_isHeard 94 = .ok (.iconst 0, 1) := do_3 (rdb (p := 64) (i := 30) ch_cX12_isHeard_64 rfl)
theorem dX12_isHeard_95 : decode cX12_isHeard 95 = .ok (.goto 20, 3) := do_167 (rdb (p := 64) (i := 31) ch_cX12_isHeard_64 rfl) (rdb (p := 64) (i := 32) ch_cX12_isHeard_64 rfl) (rdb (p := 64) (i := 33) ch_cX12_isHeard_64 rfl) (by decide +kernel)
theorem ch_cX12_isHeard_96 : (cX12_isHeard.data.toList.drop 96).take 36 = [0, 20, 21, 8, 42, 180, 0, 9, 16, 6, 46, 164, 0, 7, 4, 167, 0, 4, 3, 172] := by decide +kernel
theorem dX12_isHeard_98 : decode cX12_isHeard 98 = .ok (.iload 8, 2) := do_21 (rdb (p := 96) (i := 2) ch_cX12_isHeard_96 rfl) (rdb (p := 96) (i := 3) ch_cX12_isHeard_96 rfl)
theorem dX12_isHeard_100 : decode cX12_isHeard 100 = .ok (.aload_n 0, 1) := do_42 (rdb (p := 96) (i := 4) ch_cX12_isHeard_96 rfl)
theorem dX12_isHeard_101 : decode cX12_isHeard 101 = .ok (.getfield 9, 3) := do_180 (rdb (p := 96) (i := 5) ch_cX12_isHeard_96 rfl) (rdb (p := 96) (i := 6) ch_cX12_isHeard_96 rfl) (rdb (p := 96) (i := 7) ch_cX12_isHeard_96 rfl) rfl
theorem dX12_isHeard_104 : decode cX12_isHeard 104 = .ok (.bipush 6, 2) := do_16 (rdb (p := 96) (i := 8) ch_cX12_isHeard_96 rfl) (rdb (p := 96) (i := 9) ch_cX12_isHeard_96 rfl) (by decide +kernel)
theorem dX12_isHeard_106 : decode cX12_isHeard 106 = .ok (.iaload, 1) := do_46 (rdb (p := 96) (i := 10) ch_cX12_isHeard_96 rfl)
theorem dX12_isHeard_107 : decode cX12_isHeard 107 = .ok (.if_icmp .le 7, 3) := do_164 (rdb (p := 96) (i := 11) ch_cX12_isHeard_96 rfl) (rdb (p := 96) (i := 12) ch_cX12_isHeard_96 rfl) (rdb (p := 96) (i := 13) ch_cX12_isHeard_96 rfl) (by decide +kernel)
theorem dX12_isHeard_110 : decode cX12_isHeard 110 = .ok (.iconst 1, 1) := do_4 (rdb (p := 96) (i := 14) ch_cX12_isHeard_96 rfl)
theorem dX12_isHeard_111 : decode cX12_isHeard 111 = .ok (.goto 4, 3) := do_167 (rdb (p := 96) (i := 15) ch_cX12_isHeard_96 rfl) (rdb (p := 96) (i := 16) ch_cX12_isHeard_96 rfl) (rdb (p := 96) (i := 17) ch_cX12_isHeard_96 rfl) (by decide +kernel)
theorem dX12_isHeard_114 : decode cX12_isHeard 114 = .ok (.iconst 0, 1) := do_3 (rdb (p := 96) (i := 18) ch_cX12_isHeard_96 rfl)
theorem dX12_isHeard_115 : decode cX12_isHeard 115 = .ok (.ireturn, 1) := do_172 (rdb (p := 96) (i := 19) ch_cX12_isHeard_96 rfl)
theorem dX12_kindIn_0 : decode cX12_kindIn 0 = .ok (.aload_n 0, 1) := by decide +kernel
theorem dX12_kindIn_1 : decode cX12_kindIn 1 = .ok (.iload_n 1, 1) := by decide +kernel
theorem dX12_kindIn_2 : decode cX12_kindIn 2 = .ok (.invokevirtual 96, 3) := by decide +kernel
theorem dX12_kindIn_5 : decode cX12_kindIn 5 = .ok (.istore_n 2, 1) := by decide +kernel
theorem dX12_kindIn_6 : decode cX12_kindIn 6 = .ok (.iload_n 2, 1) := by decide +kernel
theorem dX12_kindIn_7 : decode cX12_kindIn 7 = .ok (.bipush 100, 2) := by decide +kernel
theorem dX12_kindIn_9 : decode cX12_kindIn 9 = .ok (.if_icmp .ge 18, 3) := by decide +kernel
theorem dX12_kindIn_12 : decode cX12_kindIn 12 = .ok (.aload_n 0, 1) := by decide +kernel
theorem dX12_kindIn_13 : decode cX12_kindIn 13 = .ok (.getfield 9, 3) := by decide +kernel
theorem dX12_kindIn_16 : decode cX12_kindIn 16 = .ok (.aload_n 0, 1) := by decide +kernel
theorem dX12_kindIn_17 : decode cX12_kindIn 17 = .ok (.iload_n 2, 1) := by decide +kernel
theorem dX12_kindIn_18 : decode cX12_kindIn 18 = .ok (.invokevirtual 89, 3) := by decide +kernel
theorem dX12_kindIn_21 : decode cX12_kindIn 21 = .ok (.iconst 0, 1) := by decide +kernel
theorem dX12_kindIn_22 : decode cX12_kindIn 22 = .ok (.iadd, 1) := by decide +kernel
theorem dX12_kindIn_23 : decode cX12_kindIn 23 = .ok (.iaload, 1) := by decide +kernel
theorem dX12_kindIn_24 : decode cX12_kindIn 24 = .ok (.goto 4, 3) := by decide +kernel
theorem dX12_kindIn_27 : decode cX12_kindIn 27 = .ok (.iconst 3, 1) := by decide +kernel
theorem dX12_kindIn_28 : decode cX12_kindIn 28 = .ok (.ireturn, 1) := by decide +kernel
theorem ch_cX12_least_0 : (cX12_least.data.toList.drop 0).take 36 = [42, 27, 5, 182, 0, 116, 153, 0, 32, 28, 3, 7, 184, 0, 85, 153, 0, 23, 29, 4, 16, 15, 184, 0, 85, 153, 0, 13, 21, 4, 3, 4, 184, 0, 85, 154] := by decide +kernel
theorem dX12_least_0 : decode cX12_least 0 = .ok (.aload_n 0, 1) := do_42 (rdb (p := 0) (i := 0) ch_cX12_least_0 rfl)
theorem dX12_least_1 : decode cX12_least 1 = .ok (.iload_n 1, 1) := do_27 (rdb (p := 0) (i := 1) ch_cX12_least_0 rfl)
theorem dX12_least_2 : decode cX12_least 2 = .ok (.iconst 2, 1) := do_5 (rdb (p := 0) (i := 2) ch_cX12_least_0 rfl)
theorem dX12_least_3 : decode cX12_least 3 = .ok (.invokevirtual 116, 3) := do_182 (rdb (p := 0) (i := 3) ch_cX12_least_0 rfl) (rdb (p := 0) (i := 4) ch_cX12_least_0 rfl) (rdb (p := 0) (i := 5) ch_cX12_least_0 rfl) rfl
theorem dX12_least_6 : decode cX12_least 6 = .ok (.ifCond .eq 32, 3) := do_153 (rdb (p := 0) (i := 6) ch_cX12_least_0 rfl) (rdb (p := 0) (i := 7) ch_cX12_least_0 rfl) (rdb (p := 0) (i := 8) ch_cX12_least_0 rfl) (by decide +kernel)
theorem dX12_least_9 : decode cX12_least 9 = .ok (.iload_n 2, 1) := do_28 (rdb (p := 0) (i := 9) ch_cX12_least_0 rfl)
theorem dX12_least_10 : decode cX12_least 10 = .ok (.iconst 0, 1) := do_3 (rdb (p := 0) (i := 10) ch_cX12_least_0 rfl)
theorem dX12_least_11 : decode cX12_least 11 = .ok (.iconst 4, 1) := do_7 (rdb (p := 0) (i := 11) ch_cX12_least_0 rfl)
theorem dX12_least_12 : decode cX12_least 12 = .ok (.invokestatic 85, 3) := do_184 (rdb (p := 0) (i := 12) ch_cX12_least_0 rfl) (rdb (p := 0) (i := 13) ch_cX12_least_0 rfl) (rdb (p := 0) (i := 14) ch_cX12_least_0 rfl) rfl
theorem dX12_least_15 : decode cX12_least 15 = .ok (.ifCond .eq 23, 3) := do_153 (rdb (p := 0) (i := 15) ch_cX12_least_0 rfl) (rdb (p := 0) (i := 16) ch_cX12_least_0 rfl) (rdb (p := 0) (i := 17) ch_cX12_least_0 rfl) (by decide +kernel)
theorem dX12_least_18 : decode cX12_least 18 = .ok (.iload_n 3, 1) := do_29 (rdb (p := 0) (i := 18) ch_cX12_least_0 rfl)
theorem dX12_least_19 : decode cX12_least 19 = .ok (.iconst 1, 1) := do_4 (rdb (p := 0) (i := 19) ch_cX12_least_0 rfl)
theorem dX12_least_20 : decode cX12_least 20 = .ok (.bipush 15, 2) := do_16 (rdb (p := 0) (i := 20) ch_cX12_least_0 rfl) (rdb (p := 0) (i := 21) ch_cX12_least_0 rfl) (by decide +kernel)
theorem dX12_least_22 : decode cX12_least 22 = .ok (.invokestatic 85, 3) := do_184 (rdb (p := 0) (i := 22) ch_cX12_least_0 rfl) (rdb (p := 0) (i := 23) ch_cX12_least_0 rfl) (rdb (p := 0) (i := 24) ch_cX12_least_0 rfl) rfl
theorem dX12_least_25 : decode cX12_least 25 = .ok (.ifCond .eq 13, 3) := do_153 (rdb (p := 0) (i := 25) ch_cX12_least_0 rfl) (rdb (p := 0) (i := 26) ch_cX12_least_0 rfl) (rdb (p := 0) (i := 27) ch_cX12_least_0 rfl) (by decide +kernel)
theorem dX12_least_28 : decode cX12_least 28 = .ok (.iload 4, 2) := do_21 (rdb (p := 0) (i := 28) ch_cX12_least_0 rfl) (rdb (p := 0) (i := 29) ch_cX12_least_0 rfl)
theorem dX12_least_30 : decode cX12_least 30 = .ok (.iconst 0, 1) := do_3 (rdb (p := 0) (i := 30) ch_cX12_least_0 rfl)
theorem dX12_least_31 : decode cX12_least 31 = .ok (.iconst 1, 1) := do_4 (rdb (p := 0) (i := 31) ch_cX12_least_0 rfl)
theorem ch_cX12_least_32 : (cX12_least.data.toList.drop 32).take 36 = [184, 0, 85, 154, 0, 10, 42, 18, 103, 182, 0, 104, 172, 29, 42, 27, 182, 0, 140, 163, 0, 79, 4, 54, 5, 21, 5, 21, 4, 154, 0, 8, 16, 9, 167, 0] := by decide +kernel
theorem dX12_least_32 : decode cX12_least 32 = .ok (.invokestatic 85, 3) := do_184 (rdb (p := 32) (i := 0) ch_cX12_least_32 rfl) (rdb (p := 32) (i := 1) ch_cX12_least_32 rfl) (rdb (p := 32) (i := 2) ch_cX12_least_32 rfl) rfl
theorem dX12_least_35 : decode cX12_least 35 = .ok (.ifCond .ne 10, 3) := do_154 (rdb (p := 32) (i := 3) ch_cX12_least_32 rfl) (rdb (p := 32) (i := 4) ch_cX12_least_32 rfl) (rdb (p := 32) (i := 5) ch_cX12_least_32 rfl) (by decide +kernel)
theorem dX12_least_38 : decode cX12_least 38 = .ok (.aload_n 0, 1) := do_42 (rdb (p := 32) (i := 6) ch_cX12_least_32 rfl)
theorem dX12_least_39 : decode cX12_least 39 = .ok (.ldc 103, 2) := do_18 (rdb (p := 32) (i := 7) ch_cX12_least_32 rfl) (rdb (p := 32) (i := 8) ch_cX12_least_32 rfl)
theorem dX12_least_41 : decode cX12_least 41 = .ok (.invokevirtual 104, 3) := do_182 (rdb (p := 32) (i := 9) ch_cX12_least_32 rfl) (rdb (p := 32) (i := 10) ch_cX12_least_32 rfl) (rdb (p := 32) (i := 11) ch_cX12_least_32 rfl) rfl
theorem dX12_least_44 : decode cX12_least 44 = .ok (.ireturn, 1) := do_172 (rdb (p := 32) (i := 12) ch_cX12_least_32 rfl)
theorem dX12_least_45 : decode cX12_least 45 = .ok (.iload_n 3, 1) := do_29 (rdb (p := 32) (i := 13) ch_cX12_least_32 rfl)
theorem dX12_least_46 : decode cX12_least 46 = .ok (.aload_n 0, 1) := do_42 (rdb (p := 32) (i := 14) ch_cX12_least_32 rfl)
theorem dX12_least_47 : decode cX12_least 47 = .ok (.iload_n 1, 1) := do_27 (rdb (p := 32) (i := 15) ch_cX12_least_32 rfl)
theorem dX12_least_48 : decode cX12_least 48 = .ok (.invokevirtual 140, 3) := do_182 (rdb (p := 32) (i := 16) ch_cX12_least_32 rfl) (rdb (p := 32) (i := 17) ch_cX12_least_32 rfl) (rdb (p := 32) (i := 18) ch_cX12_least_32 rfl) rfl
theorem dX12_least_51 : decode cX12_least 51 = .ok (.if_icmp .gt 79, 3) := do_163 (rdb (p := 32) (i := 19) ch_cX12_least_32 rfl) (rdb (p := 32) (i := 20) ch_cX12_least_32 rfl) (rdb (p := 32) (i := 21) ch_cX12_least_32 rfl) (by decide +kernel)
theorem dX12_least_54 : decode cX12_least 54 = .ok (.iconst 1, 1) := do_4 (rdb (p := 32) (i := 22) ch_cX12_least_32 rfl)
theorem dX12_least_55 : decode cX12_least 55 = .ok (.istore 5, 2) := do_54 (rdb (p := 32) (i := 23) ch_cX12_least_32 rfl) (rdb (p := 32) (i := 24) ch_cX12_least_32 rfl)
theorem dX12_least_57 : decode cX12_least 57 = .ok (.iload 5, 2) := do_21 (rdb (p := 32) (i := 25) ch_cX12_least_32 rfl) (rdb (p := 32) (i := 26) ch_cX12_least_32 rfl)
theorem dX12_least_59 : decode cX12_least 59 = .ok (.iload 4, 2) := do_21 (rdb (p := 32) (i := 27) ch_cX12_least_32 rfl) (rdb (p := 32) (i := 28) ch_cX12_least_32 rfl)
theorem dX12_least_61 : decode cX12_least 61 = .ok (.ifCond .ne 8, 3) := do_154 (rdb (p := 32) (i := 29) ch_cX12_least_32 rfl) (rdb (p := 32) (i := 30) ch_cX12_least_32 rfl) (rdb (p := 32) (i := 31) ch_cX12_least_32 rfl) (by decide +kernel)
theorem ch_cX12_least_64 : (cX12_least.data.toList.drop 64).take 36 = [16, 9, 167, 0, 5, 16, 99, 163, 0, 59, 42, 42, 27, 182, 0, 143, 28, 21, 4, 154, 0, 8, 21, 5, 167, 0, 13, 16, 9, 42, 27, 182, 0, 143, 184, 0] := by decide +kernel
theorem dX12_least_64 : decode cX12_least 64 = .ok (.bipush 9, 2) := do_16 (rdb (p := 64) (i := 0) ch_cX12_least_64 rfl) (rdb (p := 64) (i := 1) ch_cX12_least_64 rfl) (by decide +kernel)
theorem dX12_least_66 : decode cX12_least 66 = .ok (.goto 5, 3) := do_167 (rdb (p := 64) (i := 2) ch_cX12_least_64 rfl) (rdb (p := 64) (i := 3) ch_cX12_least_64 rfl) (rdb (p := 64) (i := 4) ch_cX12_least_64 rfl) (by decide +kernel)
theorem dX12_least_69 : decode cX12_least 69 = .ok (.bipush 99, 2) := do_16 (rdb (p := 64) (i := 5) ch_cX12_least_64 rfl) (rdb (p := 64) (i := 6) ch_cX12_least_64 rfl) (by decide +kernel)
theorem dX12_least_71 : decode cX12_least 71 = .ok (.if_icmp .gt 59, 3) := do_163 (rdb (p := 64) (i := 7) ch_cX12_least_64 rfl) (rdb (p := 64) (i := 8) ch_cX12_least_64 rfl) (rdb (p := 64) (i := 9) ch_cX12_least_64 rfl) (by decide +kernel)
theorem dX12_least_74 : decode cX12_least 74 = .ok (.aload_n 0, 1) := do_42 (rdb (p := 64) (i := 10) ch_cX12_least_64 rfl)
theorem dX12_least_75 : decode cX12_least 75 = .ok (.aload_n 0, 1) := do_42 (rdb (p := 64) (i := 11) ch_cX12_least_64 rfl)
theorem dX12_least_76 : decode cX12_least 76 = .ok (.iload_n 1, 1) := do_27 (rdb (p := 64) (i := 12) ch_cX12_least_64 rfl)
theorem dX12_least_77 : decode cX12_least 77 = .ok (.invokevirtual 143, 3) := do_182 (rdb (p := 64) (i := 13) ch_cX12_least_64 rfl) (rdb (p := 64) (i := 14) ch_cX12_least_64 rfl) (rdb (p := 64) (i := 15) ch_cX12_least_64 rfl) rfl
theorem dX12_least_80 : decode cX12_least 80 = .ok (.iload_n 2, 1) := do_28 (rdb (p := 64) (i := 16) ch_cX12_least_64 rfl)
theorem dX12_least_81 : decode cX12_least 81 = .ok (.iload 4, 2) := do_21 (rdb (p := 64) (i := 17) ch_cX12_least_64 rfl) (rdb (p := 64) (i := 18) ch_cX12_least_64 rfl)
theorem dX12_least_83 : decode cX12_least 83 = .ok (.ifCond .ne 8, 3) := do_154 (rdb (p := 64) (i := 19) ch_cX12_least_64 rfl) (rdb (p := 64) (i := 20) ch_cX12_least_64 rfl) (rdb (p := 64) (i := 21) ch_cX12_least_64 rfl) (by decide +kernel)
theorem dX12_least_86 : decode cX12_least 86 = .ok (.iload 5, 2) := do_21 (rdb (p := 64) (i := 22) ch_cX12_least_64 rfl) (rdb (p := 64) (i := 23) ch_cX12_least_64 rfl)
theorem dX12_least_88 : decode cX12_least 88 = .ok (.goto 13, 3) := do_167 (rdb (p := 64) (i := 24) ch_cX12_least_64 rfl) (rdb (p := 64) (i := 25) ch_cX12_least_64 rfl) (rdb (p := 64) (i := 26) ch_cX12_least_64 rfl) (by decide +kernel)
theorem dX12_least_91 : decode cX12_least 91 = .ok (.bipush 9, 2) := do_16 (rdb (p := 64) (i := 27) ch_cX12_least_64 rfl) (rdb (p := 64) (i := 28) ch_cX12_least_64 rfl) (by decide +kernel)
theorem dX12_least_93 : decode cX12_least 93 = .ok (.aload_n 0, 1) := do_42 (rdb (p := 64) (i := 29) ch_cX12_least_64 rfl)
theorem dX12_least_94 : decode cX12_least 94 = .ok (.iload_n 1, 1) := do_27 (rdb (p := 64) (i := 30) ch_cX12_least_64 rfl)
theorem dX12_least_95 : decode cX12_least 95 = .ok (.invokevirtual 143, 3) := do_182 (rdb (p := 64) (i := 31) ch_cX12_least_64 rfl) (rdb (p := 64) (i := 32) ch_cX12_least_64 rfl) (rdb (p := 64) (i := 33) ch_cX12_least_64 rfl) rfl
theorem ch_cX12_least_96 : (cX12_least.data.toList.drop 96).take 36 = [0, 143, 184, 0, 219, 21, 4, 154, 0, 8, 16, 99, 167, 0, 5, 21, 5, 3, 29, 182, 0, 249, 153, 0, 6, 21, 5, 172, 132, 5, 1, 167, 255, 186, 42, 18] := by decide +kernel
theorem dX12_least_98 : decode cX12_least 98 = .ok (.invokestatic 219, 3) := do_184 (rdb (p := 96) (i := 2) ch_cX12_least_96 rfl) (rdb (p := 96) (i := 3) ch_cX12_least_96 rfl) (rdb (p := 96) (i := 4) ch_cX12_least_96 rfl) rfl
theorem dX12_least_101 : decode cX12_least 101 = .ok (.iload 4, 2) := do_21 (rdb (p := 96) (i := 5) ch_cX12_least_96 rfl) (rdb (p := 96) (i := 6) ch_cX12_least_96 rfl)
theorem dX12_least_103 : decode cX12_least 103 = .ok (.ifCond .ne 8, 3) := do_154 (rdb (p := 96) (i := 7) ch_cX12_least_96 rfl) (rdb (p := 96) (i := 8) ch_cX12_least_96 rfl) (rdb (p := 96) (i := 9) ch_cX12_least_96 rfl) (by decide +kernel)
theorem dX12_least_106 : decode cX12_least 106 = .ok (.bipush 99, 2) := do_16 (rdb (p := 96) (i := 10) ch_cX12_least_96 rfl) (rdb (p := 96) (i := 11) ch_cX12_least_96 rfl) (by decide +kernel)
theorem dX12_least_108 : decode cX12_least 108 = .ok (.goto 5, 3) := do_167 (rdb (p := 96) (i := 12) ch_cX12_least_96 rfl) (rdb (p := 96) (i := 13) ch_cX12_least_96 rfl) (rdb (p := 96) (i := 14) ch_cX12_least_96 rfl) (by decide +kernel)
theorem dX12_least_111 : decode cX12_least 111 = .ok (.iload 5, 2) := do_21 (rdb (p := 96) (i := 15) ch_cX12_least_96 rfl) (rdb (p := 96) (i := 16) ch_cX12_least_96 rfl)
theorem dX12_least_113 : decode cX12_least 113 = .ok (.iconst 0, 1) := do_3 (rdb (p := 96) (i := 17) ch_cX12_least_96 rfl)
theorem dX12_least_114 : decode cX12_least 114 = .ok (.iload_n 3, 1) := do_29 (rdb (p := 96) (i := 18) ch_cX12_least_96 rfl)
theorem dX12_least_115 : decode cX12_least 115 = .ok (.invokevirtual 249, 3) := do_182 (rdb (p := 96) (i := 19) ch_cX12_least_96 rfl) (rdb (p := 96) (i := 20) ch_cX12_least_96 rfl) (rdb (p := 96) (i := 21) ch_cX12_least_96 rfl) rfl
theorem dX12_least_118 : decode cX12_least 118 = .ok (.ifCond .eq 6, 3) := do_153 (rdb (p := 96) (i := 22) ch_cX12_least_96 rfl) (rdb (p := 96) (i := 23) ch_cX12_least_96 rfl) (rdb (p := 96) (i := 24) ch_cX12_least_96 rfl) (by decide +kernel)
theorem dX12_least_121 : decode cX12_least 121 = .ok (.iload 5, 2) := do_21 (rdb (p := 96) (i := 25) ch_cX12_least_96 rfl) (rdb (p := 96) (i := 26) ch_cX12_least_96 rfl)
theorem dX12_least_123 : decode cX12_least 123 = .ok (.ireturn, 1) := do_172 (rdb (p := 96) (i := 27) ch_cX12_least_96 rfl)
theorem dX12_least_124 : decode cX12_least 124 = .ok (.iinc 5 1, 3) := do_132 (rdb (p := 96) (i := 28) ch_cX12_least_96 rfl) (rdb (p := 96) (i := 29) ch_cX12_least_96 rfl) (rdb (p := 96) (i := 30) ch_cX12_least_96 rfl) (by decide +kernel)
theorem dX12_least_127 : decode cX12_least 127 = .ok (.goto (-70), 3) := do_167 (rdb (p := 96) (i := 31) ch_cX12_least_96 rfl) (rdb (p := 96) (i := 32) ch_cX12_least_96 rfl) (rdb (p := 96) (i := 33) ch_cX12_least_96 rfl) (by decide +kernel)
theorem ch_cX12_least_128 : (cX12_least.data.toList.drop 128).take 36 = [255, 186, 42, 18, 130, 182, 0, 104, 172] := by decide +kernel
theorem dX12_least_130 : decode cX12_least 130 = .ok (.aload_n 0, 1) := do_42 (rdb (p := 128) (i := 2) ch_cX12_least_128 rfl)
theorem dX12_least_131 : decode cX12_least 131 = .ok (.ldc 130, 2) := do_18 (rdb (p := 128) (i := 3) ch_cX12_least_128 rfl) (rdb (p := 128) (i := 4) ch_cX12_least_128 rfl)
theorem dX12_least_133 : decode cX12_least 133 = .ok (.invokevirtual 104, 3) := do_182 (rdb (p := 128) (i := 5) ch_cX12_least_128 rfl) (rdb (p := 128) (i := 6) ch_cX12_least_128 rfl) (rdb (p := 128) (i := 7) ch_cX12_least_128 rfl) rfl
theorem dX12_least_136 : decode cX12_least 136 = .ok (.ireturn, 1) := do_172 (rdb (p := 128) (i := 8) ch_cX12_least_128 rfl)
theorem dX12_more_0 : decode cX12_more 0 = .ok (.aload_n 0, 1) := by decide +kernel
theorem dX12_more_1 : decode cX12_more 1 = .ok (.getfield 9, 3) := by decide +kernel
theorem dX12_more_4 : decode cX12_more 4 = .ok (.iload_n 1, 1) := by decide +kernel
theorem dX12_more_5 : decode cX12_more 5 = .ok (.bipush 99, 2) := by decide +kernel
theorem dX12_more_7 : decode cX12_more 7 = .ok (.aload_n 0, 1) := by decide +kernel
theorem dX12_more_8 : decode cX12_more 8 = .ok (.getfield 9, 3) := by decide +kernel
theorem dX12_more_11 : decode cX12_more 11 = .ok (.iload_n 1, 1) := by decide +kernel
theorem dX12_more_12 : decode cX12_more 12 = .ok (.iaload, 1) := by decide +kernel
theorem dX12_more_13 : decode cX12_more 13 = .ok (.iload_n 2, 1) := by decide +kernel
theorem dX12_more_14 : decode cX12_more 14 = .ok (.iadd, 1) := by decide +kernel
theorem dX12_more_15 : decode cX12_more 15 = .ok (.invokestatic 219, 3) := by decide +kernel
theorem dX12_more_18 : decode cX12_more 18 = .ok (.iastore, 1) := by decide +kernel
theorem dX12_more_19 : decode cX12_more 19 = .ok (.return_, 1) := by decide +kernel
theorem ch_cX12_strength_0 : (cX12_strength.data.toList.drop 0).take 36 = [42, 180, 0, 9, 16, 9, 27, 96, 46, 54, 5, 42, 180, 0, 47, 3, 29, 79, 42, 180, 0, 47, 4, 21, 5, 79, 42, 180, 0, 47, 5, 21, 4, 79, 42, 180] := by decide +kernel
theorem dX12_strength_0 : decode cX12_strength 0 = .ok (.aload_n 0, 1) := do_42 (rdb (p := 0) (i := 0) ch_cX12_strength_0 rfl)
theorem dX12_strength_1 : decode cX12_strength 1 = .ok (.getfield 9, 3) := do_180 (rdb (p := 0) (i := 1) ch_cX12_strength_0 rfl) (rdb (p := 0) (i := 2) ch_cX12_strength_0 rfl) (rdb (p := 0) (i := 3) ch_cX12_strength_0 rfl) rfl
theorem dX12_strength_4 : decode cX12_strength 4 = .ok (.bipush 9, 2) := do_16 (rdb (p := 0) (i := 4) ch_cX12_strength_0 rfl) (rdb (p := 0) (i := 5) ch_cX12_strength_0 rfl) (by decide +kernel)
theorem dX12_strength_6 : decode cX12_strength 6 = .ok (.iload_n 1, 1) := do_27 (rdb (p := 0) (i := 6) ch_cX12_strength_0 rfl)
theorem dX12_strength_7 : decode cX12_strength 7 = .ok (.iadd, 1) := do_96 (rdb (p := 0) (i := 7) ch_cX12_strength_0 rfl)
theorem dX12_strength_8 : decode cX12_strength 8 = .ok (.iaload, 1) := do_46 (rdb (p := 0) (i := 8) ch_cX12_strength_0 rfl)
theorem dX12_strength_9 : decode cX12_strength 9 = .ok (.istore 5, 2) := do_54 (rdb (p := 0) (i := 9) ch_cX12_strength_0 rfl) (rdb (p := 0) (i := 10) ch_cX12_strength_0 rfl)
theorem dX12_strength_11 : decode cX12_strength 11 = .ok (.aload_n 0, 1) := do_42 (rdb (p := 0) (i := 11) ch_cX12_strength_0 rfl)
theorem dX12_strength_12 : decode cX12_strength 12 = .ok (.getfield 47, 3) := do_180 (rdb (p := 0) (i := 12) ch_cX12_strength_0 rfl) (rdb (p := 0) (i := 13) ch_cX12_strength_0 rfl) (rdb (p := 0) (i := 14) ch_cX12_strength_0 rfl) rfl
theorem dX12_strength_15 : decode cX12_strength 15 = .ok (.iconst 0, 1) := do_3 (rdb (p := 0) (i := 15) ch_cX12_strength_0 rfl)
theorem dX12_strength_16 : decode cX12_strength 16 = .ok (.iload_n 3, 1) := do_29 (rdb (p := 0) (i := 16) ch_cX12_strength_0 rfl)
theorem dX12_strength_17 : decode cX12_strength 17 = .ok (.iastore, 1) := do_79 (rdb (p := 0) (i := 17) ch_cX12_strength_0 rfl)
theorem dX12_strength_18 : decode cX12_strength 18 = .ok (.aload_n 0, 1) := do_42 (rdb (p := 0) (i := 18) ch_cX12_strength_0 rfl)
theorem dX12_strength_19 : decode cX12_strength 19 = .ok (.getfield 47, 3) := do_180 (rdb (p := 0) (i := 19) ch_cX12_strength_0 rfl) (rdb (p := 0) (i := 20) ch_cX12_strength_0 rfl) (rdb (p := 0) (i := 21) ch_cX12_strength_0 rfl) rfl
theorem dX12_strength_22 : decode cX12_strength 22 = .ok (.iconst 1, 1) := do_4 (rdb (p := 0) (i := 22) ch_cX12_strength_0 rfl)
theorem dX12_strength_23 : decode cX12_strength 23 = .ok (.iload 5, 2) := do_21 (rdb (p := 0) (i := 23) ch_cX12_strength_0 rfl) (rdb (p := 0) (i := 24) ch_cX12_strength_0 rfl)
theorem dX12_strength_25 : decode cX12_strength 25 = .ok (.iastore, 1) := do_79 (rdb (p := 0) (i := 25) ch_cX12_strength_0 rfl)
theorem dX12_strength_26 : decode cX12_strength 26 = .ok (.aload_n 0, 1) := do_42 (rdb (p := 0) (i := 26) ch_cX12_strength_0 rfl)
theorem dX12_strength_27 : decode cX12_strength 27 = .ok (.getfield 47, 3) := do_180 (rdb (p := 0) (i := 27) ch_cX12_strength_0 rfl) (rdb (p := 0) (i := 28) ch_cX12_strength_0 rfl) (rdb (p := 0) (i := 29) ch_cX12_strength_0 rfl) rfl
theorem dX12_strength_30 : decode cX12_strength 30 = .ok (.iconst 2, 1) := do_5 (rdb (p := 0) (i := 30) ch_cX12_strength_0 rfl)
theorem dX12_strength_31 : decode cX12_strength 31 = .ok (.iload 4, 2) := do_21 (rdb (p := 0) (i := 31) ch_cX12_strength_0 rfl) (rdb (p := 0) (i := 32) ch_cX12_strength_0 rfl)
theorem ch_cX12_strength_32 : (cX12_strength.data.toList.drop 32).take 36 = [4, 79, 42, 180, 0, 47, 6, 28, 79, 42, 3, 182, 0, 213, 153, 0, 11, 42, 3, 182, 0, 216, 167, 0, 15, 29, 21, 5, 104, 16, 50, 108, 5, 21, 4, 104] := by decide +kernel
theorem dX12_strength_33 : decode cX12_strength 33 = .ok (.iastore, 1) := do_79 (rdb (p := 32) (i := 1) ch_cX12_strength_32 rfl)
theorem dX12_strength_34 : decode cX12_strength 34 = .ok (.aload_n 0, 1) := do_42 (rdb (p := 32) (i := 2) ch_cX12_strength_32 rfl)
theorem dX12_strength_35 : decode cX12_strength 35 = .ok (.getfield 47, 3) := do_180 (rdb (p := 32) (i := 3) ch_cX12_strength_32 rfl) (rdb (p := 32) (i := 4) ch_cX12_strength_32 rfl) (rdb (p := 32) (i := 5) ch_cX12_strength_32 rfl) rfl
theorem dX12_strength_38 : decode cX12_strength 38 = .ok (.iconst 3, 1) := do_6 (rdb (p := 32) (i := 6) ch_cX12_strength_32 rfl)
theorem dX12_strength_39 : decode cX12_strength 39 = .ok (.iload_n 2, 1) := do_28 (rdb (p := 32) (i := 7) ch_cX12_strength_32 rfl)
theorem dX12_strength_40 : decode cX12_strength 40 = .ok (.iastore, 1) := do_79 (rdb (p := 32) (i := 8) ch_cX12_strength_32 rfl)
theorem dX12_strength_41 : decode cX12_strength 41 = .ok (.aload_n 0, 1) := do_42 (rdb (p := 32) (i := 9) ch_cX12_strength_32 rfl)
theorem dX12_strength_42 : decode cX12_strength 42 = .ok (.iconst 0, 1) := do_3 (rdb (p := 32) (i := 10) ch_cX12_strength_32 rfl)
theorem dX12_strength_43 : decode cX12_strength 43 = .ok (.invokevirtual 213, 3) := do_182 (rdb (p := 32) (i := 11) ch_cX12_strength_32 rfl) (rdb (p := 32) (i := 12) ch_cX12_strength_32 rfl) (rdb (p := 32) (i := 13) ch_cX12_strength_32 rfl) rfl
theorem dX12_strength_46 : decode cX12_strength 46 = .ok (.ifCond .eq 11, 3) := do_153 (rdb (p := 32) (i := 14) ch_cX12_strength_32 rfl) (rdb (p := 32) (i := 15) ch_cX12_strength_32 rfl) (rdb (p := 32) (i := 16) ch_cX12_strength_32 rfl) (by decide +kernel)
theorem dX12_strength_49 : decode cX12_strength 49 = .ok (.aload_n 0, 1) := do_42 (rdb (p := 32) (i := 17) ch_cX12_strength_32 rfl)
theorem dX12_strength_50 : decode cX12_strength 50 = .ok (.iconst 0, 1) := do_3 (rdb (p := 32) (i := 18) ch_cX12_strength_32 rfl)
theorem dX12_strength_51 : decode cX12_strength 51 = .ok (.invokevirtual 216, 3) := do_182 (rdb (p := 32) (i := 19) ch_cX12_strength_32 rfl) (rdb (p := 32) (i := 20) ch_cX12_strength_32 rfl) (rdb (p := 32) (i := 21) ch_cX12_strength_32 rfl) rfl
theorem dX12_strength_54 : decode cX12_strength 54 = .ok (.goto 15, 3) := do_167 (rdb (p := 32) (i := 22) ch_cX12_strength_32 rfl) (rdb (p := 32) (i := 23) ch_cX12_strength_32 rfl) (rdb (p := 32) (i := 24) ch_cX12_strength_32 rfl) (by decide +kernel)
theorem dX12_strength_57 : decode cX12_strength 57 = .ok (.iload_n 3, 1) := do_29 (rdb (p := 32) (i := 25) ch_cX12_strength_32 rfl)
theorem dX12_strength_58 : decode cX12_strength 58 = .ok (.iload 5, 2) := do_21 (rdb (p := 32) (i := 26) ch_cX12_strength_32 rfl) (rdb (p := 32) (i := 27) ch_cX12_strength_32 rfl)
theorem dX12_strength_60 : decode cX12_strength 60 = .ok (.imul, 1) := do_104 (rdb (p := 32) (i := 28) ch_cX12_strength_32 rfl)
theorem dX12_strength_61 : decode cX12_strength 61 = .ok (.bipush 50, 2) := do_16 (rdb (p := 32) (i := 29) ch_cX12_strength_32 rfl) (rdb (p := 32) (i := 30) ch_cX12_strength_32 rfl) (by decide +kernel)
theorem dX12_strength_63 : decode cX12_strength 63 = .ok (.idiv, 1) := do_108 (rdb (p := 32) (i := 31) ch_cX12_strength_32 rfl)
theorem ch_cX12_strength_64 : (cX12_strength.data.toList.drop 64).take 36 = [5, 21, 4, 104, 100, 54, 6, 3, 17, 3, 231, 21, 6, 184, 0, 219, 184, 0, 224, 54, 6, 42, 180, 0, 9, 16, 8, 46, 4, 160, 0, 10, 21, 6, 5, 108] := by decide +kernel
theorem dX12_strength_64 : decode cX12_strength 64 = .ok (.iconst 2, 1) := do_5 (rdb (p := 64) (i := 0) ch_cX12_strength_64 rfl)
theorem dX12_strength_65 : decode cX12_strength 65 = .ok (.iload 4, 2) := do_21 (rdb (p := 64) (i := 1) ch_cX12_strength_64 rfl) (rdb (p := 64) (i := 2) ch_cX12_strength_64 rfl)
theorem dX12_strength_67 : decode cX12_strength 67 = .ok (.imul, 1) := do_104 (rdb (p := 64) (i := 3) ch_cX12_strength_64 rfl)
theorem dX12_strength_68 : decode cX12_strength 68 = .ok (.isub, 1) := do_100 (rdb (p := 64) (i := 4) ch_cX12_strength_64 rfl)
theorem dX12_strength_69 : decode cX12_strength 69 = .ok (.istore 6, 2) := do_54 (rdb (p := 64) (i := 5) ch_cX12_strength_64 rfl) (rdb (p := 64) (i := 6) ch_cX12_strength_64 rfl)
theorem dX12_strength_71 : decode cX12_strength 71 = .ok (.iconst 0, 1) := do_3 (rdb (p := 64) (i := 7) ch_cX12_strength_64 rfl)
theorem dX12_strength_72 : decode cX12_strength 72 = .ok (.sipush 999, 3) := do_17 (rdb (p := 64) (i := 8) ch_cX12_strength_64 rfl) (rdb (p := 64) (i := 9) ch_cX12_strength_64 rfl) (rdb (p := 64) (i := 10) ch_cX12_strength_64 rfl) (by decide +kernel)
theorem dX12_strength_75 : decode cX12_strength 75 = .ok (.iload 6, 2) := do_21 (rdb (p := 64) (i := 11) ch_cX12_strength_64 rfl) (rdb (p := 64) (i := 12) ch_cX12_strength_64 rfl)
theorem dX12_strength_77 : decode cX12_strength 77 = .ok (.invokestatic 219, 3) := do_184 (rdb (p := 64) (i := 13) ch_cX12_strength_64 rfl) (rdb (p := 64) (i := 14) ch_cX12_strength_64 rfl) (rdb (p := 64) (i := 15) ch_cX12_strength_64 rfl) rfl
theorem dX12_strength_80 : decode cX12_strength 80 = .ok (.invokestatic 224, 3) := do_184 (rdb (p := 64) (i := 16) ch_cX12_strength_64 rfl) (rdb (p := 64) (i := 17) ch_cX12_strength_64 rfl) (rdb (p := 64) (i := 18) ch_cX12_strength_64 rfl) rfl
theorem dX12_strength_83 : decode cX12_strength 83 = .ok (.istore 6, 2) := do_54 (rdb (p := 64) (i := 19) ch_cX12_strength_64 rfl) (rdb (p := 64) (i := 20) ch_cX12_strength_64 rfl)
theorem dX12_strength_85 : decode cX12_strength 85 = .ok (.aload_n 0, 1) := do_42 (rdb (p := 64) (i := 21) ch_cX12_strength_64 rfl)
theorem dX12_strength_86 : decode cX12_strength 86 = .ok (.getfield 9, 3) := do_180 (rdb (p := 64) (i := 22) ch_cX12_strength_64 rfl) (rdb (p := 64) (i := 23) ch_cX12_strength_64 rfl) (rdb (p := 64) (i := 24) ch_cX12_strength_64 rfl) rfl
theorem dX12_strength_89 : decode cX12_strength 89 = .ok (.bipush 8, 2) := do_16 (rdb (p := 64) (i := 25) ch_cX12_strength_64 rfl) (rdb (p := 64) (i := 26) ch_cX12_strength_64 rfl) (by decide +kernel)
theorem dX12_strength_91 : decode cX12_strength 91 = .ok (.iaload, 1) := do_46 (rdb (p := 64) (i := 27) ch_cX12_strength_64 rfl)
theorem dX12_strength_92 : decode cX12_strength 92 = .ok (.iconst 1, 1) := do_4 (rdb (p := 64) (i := 28) ch_cX12_strength_64 rfl)
theorem dX12_strength_93 : decode cX12_strength 93 = .ok (.if_icmp .ne 10, 3) := do_160 (rdb (p := 64) (i := 29) ch_cX12_strength_64 rfl) (rdb (p := 64) (i := 30) ch_cX12_strength_64 rfl) (rdb (p := 64) (i := 31) ch_cX12_strength_64 rfl) (by decide +kernel)
theorem ch_cX12_strength_96 : (cX12_strength.data.toList.drop 96).take 36 = [21, 6, 5, 108, 167, 0, 5, 21, 6, 54, 6, 42, 180, 0, 9, 16, 14, 27, 96, 46, 28, 164, 0, 7, 3, 167, 0, 5, 21, 6, 172] := by decide +kernel
theorem dX12_strength_96 : decode cX12_strength 96 = .ok (.iload 6, 2) := do_21 (rdb (p := 96) (i := 0) ch_cX12_strength_96 rfl) (rdb (p := 96) (i := 1) ch_cX12_strength_96 rfl)
theorem dX12_strength_98 : decode cX12_strength 98 = .ok (.iconst 2, 1) := do_5 (rdb (p := 96) (i := 2) ch_cX12_strength_96 rfl)
theorem dX12_strength_99 : decode cX12_strength 99 = .ok (.idiv, 1) := do_108 (rdb (p := 96) (i := 3) ch_cX12_strength_96 rfl)
theorem dX12_strength_100 : decode cX12_strength 100 = .ok (.goto 5, 3) := do_167 (rdb (p := 96) (i := 4) ch_cX12_strength_96 rfl) (rdb (p := 96) (i := 5) ch_cX12_strength_96 rfl) (rdb (p := 96) (i := 6) ch_cX12_strength_96 rfl) (by decide +kernel)
theorem dX12_strength_103 : decode cX12_strength 103 = .ok (.iload 6, 2) := do_21 (rdb (p := 96) (i := 7) ch_cX12_strength_96 rfl) (rdb (p := 96) (i := 8) ch_cX12_strength_96 rfl)
theorem dX12_strength_105 : decode cX12_strength 105 = .ok (.istore 6, 2) := do_54 (rdb (p := 96) (i := 9) ch_cX12_strength_96 rfl) (rdb (p := 96) (i := 10) ch_cX12_strength_96 rfl)
theorem dX12_strength_107 : decode cX12_strength 107 = .ok (.aload_n 0, 1) := do_42 (rdb (p := 96) (i := 11) ch_cX12_strength_96 rfl)
theorem dX12_strength_108 : decode cX12_strength 108 = .ok (.getfield 9, 3) := do_180 (rdb (p := 96) (i := 12) ch_cX12_strength_96 rfl) (rdb (p := 96) (i := 13) ch_cX12_strength_96 rfl) (rdb (p := 96) (i := 14) ch_cX12_strength_96 rfl) rfl
theorem dX12_strength_111 : decode cX12_strength 111 = .ok (.bipush 14, 2) := do_16 (rdb (p := 96) (i := 15) ch_cX12_strength_96 rfl) (rdb (p := 96) (i := 16) ch_cX12_strength_96 rfl) (by decide +kernel)
theorem dX12_strength_113 : decode cX12_strength 113 = .ok (.iload_n 1, 1) := do_27 (rdb (p := 96) (i := 17) ch_cX12_strength_96 rfl)
theorem dX12_strength_114 : decode cX12_strength 114 = .ok (.iadd, 1) := do_96 (rdb (p := 96) (i := 18) ch_cX12_strength_96 rfl)
theorem dX12_strength_115 : decode cX12_strength 115 = .ok (.iaload, 1) := do_46 (rdb (p := 96) (i := 19) ch_cX12_strength_96 rfl)
theorem dX12_strength_116 : decode cX12_strength 116 = .ok (.iload_n 2, 1) := do_28 (rdb (p := 96) (i := 20) ch_cX12_strength_96 rfl)
theorem dX12_strength_117 : decode cX12_strength 117 = .ok (.if_icmp .le 7, 3) := do_164 (rdb (p := 96) (i := 21) ch_cX12_strength_96 rfl) (rdb (p := 96) (i := 22) ch_cX12_strength_96 rfl) (rdb (p := 96) (i := 23) ch_cX12_strength_96 rfl) (by decide +kernel)
theorem dX12_strength_120 : decode cX12_strength 120 = .ok (.iconst 0, 1) := do_3 (rdb (p := 96) (i := 24) ch_cX12_strength_96 rfl)
theorem dX12_strength_121 : decode cX12_strength 121 = .ok (.goto 5, 3) := do_167 (rdb (p := 96) (i := 25) ch_cX12_strength_96 rfl) (rdb (p := 96) (i := 26) ch_cX12_strength_96 rfl) (rdb (p := 96) (i := 27) ch_cX12_strength_96 rfl) (by decide +kernel)
theorem dX12_strength_124 : decode cX12_strength 124 = .ok (.iload 6, 2) := do_21 (rdb (p := 96) (i := 28) ch_cX12_strength_96 rfl) (rdb (p := 96) (i := 29) ch_cX12_strength_96 rfl)
theorem dX12_strength_126 : decode cX12_strength 126 = .ok (.ireturn, 1) := do_172 (rdb (p := 96) (i := 30) ch_cX12_strength_96 rfl)
