/-! words of the tables that are used, by their places; decode rows; fields -/
theorem li_255 : (255 : Int32).toInt = 255 := by decide
theorem m_93 : Cond.initialized "java/lang/String" ∈ BASE := bmem 93 (by decide +kernel) rfl
theorem m_94 : Cond.initialized "java/lang/StringLatin1" ∈ BASE := bmem 94 (by decide +kernel) rfl
theorem m_96 : Cond.initialized "jdk/internal/util/Preconditions" ∈ BASE := bmem 96 (by decide +kernel) rfl
theorem m_741 : Cond.instanceMethod yS_indexOf ∈ BASE := bmem 741 (by decide +kernel) rfl
theorem m_742 : Cond.selects yS_indexOf.cls yS_indexOf yS_indexOf ∈ BASE := bmem 742 (by decide +kernel) rfl
theorem m_743 : Cond.code yS_indexOf cS_indexOf 2 (some .int) ∈ BASE := bmem 743 (by decide +kernel) rfl
theorem m_744 : Cond.methodLink "java/lang/String" 633 yS_indexOf2 ∈ BASE := bmem 744 (by decide +kernel) rfl
theorem m_745 : Cond.instanceMethod yS_indexOf2 ∈ BASE := bmem 745 (by decide +kernel) rfl
theorem m_746 : Cond.selects yS_indexOf2.cls yS_indexOf2 yS_indexOf2 ∈ BASE := bmem 746 (by decide +kernel) rfl
theorem m_747 : Cond.code yS_indexOf2 cS_indexOf2 3 (some .int) ∈ BASE := bmem 747 (by decide +kernel) rfl
theorem m_748 : Cond.methodLink "java/lang/String" 492 yS_isLatin1 ∈ BASE := bmem 748 (by decide +kernel) rfl
theorem m_749 : Cond.instanceMethod yS_isLatin1 ∈ BASE := bmem 749 (by decide +kernel) rfl
theorem m_750 : Cond.selects yS_isLatin1.cls yS_isLatin1 yS_isLatin1 ∈ BASE := bmem 750 (by decide +kernel) rfl
theorem m_751 : Cond.code yS_isLatin1 cS_isLatin1 1 (some .boolean) ∈ BASE := bmem 751 (by decide +kernel) rfl
theorem m_752 : Cond.fieldLink "java/lang/String" 38 "java/lang/String" "COMPACT_STRINGS" "Z" ∈ BASE := bmem 752 (by decide +kernel) rfl
theorem m_754 : Cond.methodLink "java/lang/String" 505 yS_length ∈ BASE := bmem 754 (by decide +kernel) rfl
theorem m_755 : Cond.instanceMethod yS_length ∈ BASE := bmem 755 (by decide +kernel) rfl
theorem m_756 : Cond.selects yS_length.cls yS_length yS_length ∈ BASE := bmem 756 (by decide +kernel) rfl
theorem m_757 : Cond.code yS_length cS_length 1 (some .int) ∈ BASE := bmem 757 (by decide +kernel) rfl
theorem m_758 : Cond.methodLink "java/lang/String" 335 yS_coder ∈ BASE := bmem 758 (by decide +kernel) rfl
theorem m_759 : Cond.instanceMethod yS_coder ∈ BASE := bmem 759 (by decide +kernel) rfl
theorem m_760 : Cond.selects yS_coder.cls yS_coder yS_coder ∈ BASE := bmem 760 (by decide +kernel) rfl
theorem m_761 : Cond.code yS_coder cS_coder 1 (some .byte) ∈ BASE := bmem 761 (by decide +kernel) rfl
theorem m_762 : Cond.methodLink "java/lang/String" 637 ySL_indexOf ∈ BASE := bmem 762 (by decide +kernel) rfl
theorem m_763 : Cond.static ySL_indexOf ∈ BASE := bmem 763 (by decide +kernel) rfl
theorem m_764 : Cond.code ySL_indexOf cSL_indexOf 4 (some .int) ∈ BASE := bmem 764 (by decide +kernel) rfl
theorem m_765 : Cond.methodLink "java/lang/StringLatin1" 88 ySL_canEncode ∈ BASE := bmem 765 (by decide +kernel) rfl
theorem m_766 : Cond.static ySL_canEncode ∈ BASE := bmem 766 (by decide +kernel) rfl
theorem m_767 : Cond.code ySL_canEncode cSL_canEncode 1 (some .boolean) ∈ BASE := bmem 767 (by decide +kernel) rfl
theorem m_768 : Cond.methodLink "java/lang/StringLatin1" 92 Lib.Math.max.name ∈ BASE := bmem 768 (by decide +kernel) rfl
theorem m_769 : Cond.methodLink "java/lang/StringLatin1" 38 Lib.Math.min.name ∈ BASE := bmem 769 (by decide +kernel) rfl
theorem m_772 : Cond.methodLink "java/lang/StringLatin1" 95 ySL_indexOfChar ∈ BASE := bmem 772 (by decide +kernel) rfl
theorem m_773 : Cond.static ySL_indexOfChar ∈ BASE := bmem 773 (by decide +kernel) rfl
theorem m_774 : Cond.code ySL_indexOfChar cSL_indexOfChar 6 (some .int) ∈ BASE := bmem 774 (by decide +kernel) rfl
theorem m_793 : Cond.fieldLink "java/lang/String" 1053 "jdk/internal/util/Preconditions" "SIOOBE_FORMATTER" "Ljava/util/function/BiFunction;" ∈ BASE := bmem 793 (by decide +kernel) rfl
theorem m_1604 : Cond.methodLink "java/lang/String" 495 ySL_charAt ∈ BASE := bmem 1604 (by decide +kernel) rfl
theorem m_1605 : Cond.static ySL_charAt ∈ BASE := bmem 1605 (by decide +kernel) rfl
theorem m_1606 : Cond.code ySL_charAt cSL_charAt 2 (some .char) ∈ BASE := bmem 1606 (by decide +kernel) rfl
theorem m_1607 : Cond.methodLink "java/lang/StringLatin1" 9 yS_checkIndex ∈ BASE := bmem 1607 (by decide +kernel) rfl
theorem m_1608 : Cond.static yS_checkIndex ∈ BASE := bmem 1608 (by decide +kernel) rfl
theorem m_1609 : Cond.code yS_checkIndex cS_checkIndex 2 none ∈ BASE := bmem 1609 (by decide +kernel) rfl
theorem m_1610 : Cond.methodLink "java/lang/String" 1059 yP_checkIndex ∈ BASE := bmem 1610 (by decide +kernel) rfl
theorem m_1611 : Cond.static yP_checkIndex ∈ BASE := bmem 1611 (by decide +kernel) rfl
theorem m_1612 : Cond.code yP_checkIndex cP_checkIndex 3 (some .int) ∈ BASE := bmem 1612 (by decide +kernel) rfl
theorem m_1871 : Cond.fieldLink "java/lang/String" 15 "java/lang/String" "coder" "B" ∈ BASE := bmem 1871 (by decide +kernel) rfl
theorem m_1872 : Cond.fieldLink "java/lang/String" 9 "java/lang/String" "value" "[B" ∈ BASE := bmem 1872 (by decide +kernel) rfl
theorem kS_P_checkIndex : KS yP_checkIndex cP_checkIndex 3 (some .int) 3 := ⟨m_1611, m_96, m_1612, by decide +kernel, by decide +kernel, by decide +kernel⟩
theorem kS_SL_canEncode : KS ySL_canEncode cSL_canEncode 1 (some .boolean) 1 := ⟨m_766, m_94, m_767, by decide +kernel, by decide +kernel, by decide +kernel⟩
theorem kS_SL_charAt : KS ySL_charAt cSL_charAt 2 (some .char) 2 := ⟨m_1605, m_94, m_1606, by decide +kernel, by decide +kernel, by decide +kernel⟩
theorem kS_SL_indexOf : KS ySL_indexOf cSL_indexOf 4 (some .int) 4 := ⟨m_763, m_94, m_764, by decide +kernel, by decide +kernel, by decide +kernel⟩
theorem kS_SL_indexOfChar : KS ySL_indexOfChar cSL_indexOfChar 6 (some .int) 4 := ⟨m_773, m_94, m_774, by decide +kernel, by decide +kernel, by decide +kernel⟩
theorem kS_S_checkIndex : KS yS_checkIndex cS_checkIndex 2 none 2 := ⟨m_1608, m_93, m_1609, by decide +kernel, by decide +kernel, by decide +kernel⟩
theorem kV_S_coder : KV yS_coder cS_coder 1 (some .byte) 0 := ⟨m_759, m_760, m_93, m_761, by decide +kernel, by decide +kernel, by decide +kernel⟩
theorem kV_S_indexOf : KV yS_indexOf cS_indexOf 2 (some .int) 1 := ⟨m_741, m_742, m_93, m_743, by decide +kernel, by decide +kernel, by decide +kernel⟩
theorem kV_S_indexOf2 : KV yS_indexOf2 cS_indexOf2 3 (some .int) 2 := ⟨m_745, m_746, m_93, m_747, by decide +kernel, by decide +kernel, by decide +kernel⟩
theorem kV_S_isLatin1 : KV yS_isLatin1 cS_isLatin1 1 (some .boolean) 0 := ⟨m_749, m_750, m_93, m_751, by decide +kernel, by decide +kernel, by decide +kernel⟩
theorem kV_S_length : KV yS_length cS_length 1 (some .int) 0 := ⟨m_755, m_756, m_93, m_757, by decide +kernel, by decide +kernel, by decide +kernel⟩
theorem dSL_canEncode_0 : decode cSL_canEncode 0 = .ok (.iload_n 0, 1) := by decide +kernel
theorem dSL_canEncode_1 : decode cSL_canEncode 1 = .ok (.ifCond .lt 14, 3) := by decide +kernel
theorem dSL_canEncode_4 : decode cSL_canEncode 4 = .ok (.iload_n 0, 1) := by decide +kernel
theorem dSL_canEncode_5 : decode cSL_canEncode 5 = .ok (.sipush 255, 3) := by decide +kernel
theorem dSL_canEncode_8 : decode cSL_canEncode 8 = .ok (.if_icmp .gt 7, 3) := by decide +kernel
theorem dSL_canEncode_11 : decode cSL_canEncode 11 = .ok (.iconst 1, 1) := by decide +kernel
theorem dSL_canEncode_12 : decode cSL_canEncode 12 = .ok (.goto 4, 3) := by decide +kernel
theorem dSL_canEncode_15 : decode cSL_canEncode 15 = .ok (.iconst 0, 1) := by decide +kernel
theorem dSL_canEncode_16 : decode cSL_canEncode 16 = .ok (.ireturn, 1) := by decide +kernel
theorem dSL_charAt_0 : decode cSL_charAt 0 = .ok (.iload_n 1, 1) := by decide +kernel
theorem dSL_charAt_1 : decode cSL_charAt 1 = .ok (.aload_n 0, 1) := by decide +kernel
theorem dSL_charAt_2 : decode cSL_charAt 2 = .ok (.arraylength, 1) := by decide +kernel
theorem dSL_charAt_3 : decode cSL_charAt 3 = .ok (.invokestatic 9, 3) := by decide +kernel
theorem dSL_charAt_6 : decode cSL_charAt 6 = .ok (.aload_n 0, 1) := by decide +kernel
theorem dSL_charAt_7 : decode cSL_charAt 7 = .ok (.iload_n 1, 1) := by decide +kernel
theorem dSL_charAt_8 : decode cSL_charAt 8 = .ok (.baload, 1) := by decide +kernel
theorem dSL_charAt_9 : decode cSL_charAt 9 = .ok (.sipush 255, 3) := by decide +kernel
theorem dSL_charAt_12 : decode cSL_charAt 12 = .ok (.iand, 1) := by decide +kernel
theorem dSL_charAt_13 : decode cSL_charAt 13 = .ok (.i2c, 1) := by decide +kernel
theorem dSL_charAt_14 : decode cSL_charAt 14 = .ok (.ireturn, 1) := by decide +kernel
theorem dSL_indexOf_0 : decode cSL_indexOf 0 = .ok (.iload_n 1, 1) := by decide +kernel
theorem dSL_indexOf_1 : decode cSL_indexOf 1 = .ok (.invokestatic 88, 3) := by decide +kernel
theorem dSL_indexOf_4 : decode cSL_indexOf 4 = .ok (.ifCond .ne 5, 3) := by decide +kernel
theorem dSL_indexOf_7 : decode cSL_indexOf 7 = .ok (.iconst (-1), 1) := by decide +kernel
theorem dSL_indexOf_8 : decode cSL_indexOf 8 = .ok (.ireturn, 1) := by decide +kernel
theorem dSL_indexOf_9 : decode cSL_indexOf 9 = .ok (.iload_n 2, 1) := by decide +kernel
theorem dSL_indexOf_10 : decode cSL_indexOf 10 = .ok (.iconst 0, 1) := by decide +kernel
theorem dSL_indexOf_11 : decode cSL_indexOf 11 = .ok (.invokestatic 92, 3) := by decide +kernel
theorem dSL_indexOf_14 : decode cSL_indexOf 14 = .ok (.istore_n 2, 1) := by decide +kernel
theorem dSL_indexOf_15 : decode cSL_indexOf 15 = .ok (.iload_n 3, 1) := by decide +kernel
theorem dSL_indexOf_16 : decode cSL_indexOf 16 = .ok (.aload_n 0, 1) := by decide +kernel
theorem dSL_indexOf_17 : decode cSL_indexOf 17 = .ok (.arraylength, 1) := by decide +kernel
theorem dSL_indexOf_18 : decode cSL_indexOf 18 = .ok (.invokestatic 38, 3) := by decide +kernel
theorem dSL_indexOf_21 : decode cSL_indexOf 21 = .ok (.istore_n 3, 1) := by decide +kernel
theorem dSL_indexOf_22 : decode cSL_indexOf 22 = .ok (.iload_n 2, 1) := by decide +kernel
theorem dSL_indexOf_23 : decode cSL_indexOf 23 = .ok (.iload_n 3, 1) := by decide +kernel
theorem dSL_indexOf_24 : decode cSL_indexOf 24 = .ok (.if_icmp .lt 5, 3) := by decide +kernel
theorem dSL_indexOf_27 : decode cSL_indexOf 27 = .ok (.iconst (-1), 1) := by decide +kernel
theorem dSL_indexOf_28 : decode cSL_indexOf 28 = .ok (.ireturn, 1) := by decide +kernel
theorem dSL_indexOf_29 : decode cSL_indexOf 29 = .ok (.aload_n 0, 1) := by decide +kernel
theorem dSL_indexOf_30 : decode cSL_indexOf 30 = .ok (.iload_n 1, 1) := by decide +kernel
theorem dSL_indexOf_31 : decode cSL_indexOf 31 = .ok (.iload_n 2, 1) := by decide +kernel
theorem dSL_indexOf_32 : decode cSL_indexOf 32 = .ok (.iload_n 3, 1) := by decide +kernel
theorem dSL_indexOf_33 : decode cSL_indexOf 33 = .ok (.invokestatic 95, 3) := by decide +kernel
theorem dSL_indexOf_36 : decode cSL_indexOf 36 = .ok (.ireturn, 1) := by decide +kernel
theorem dSL_indexOfChar_0 : decode cSL_indexOfChar 0 = .ok (.iload_n 1, 1) := by decide +kernel
theorem dSL_indexOfChar_1 : decode cSL_indexOfChar 1 = .ok (.i2b, 1) := by decide +kernel
theorem dSL_indexOfChar_2 : decode cSL_indexOfChar 2 = .ok (.istore 4, 2) := by decide +kernel
theorem dSL_indexOfChar_4 : decode cSL_indexOfChar 4 = .ok (.iload_n 2, 1) := by decide +kernel
theorem dSL_indexOfChar_5 : decode cSL_indexOfChar 5 = .ok (.istore 5, 2) := by decide +kernel
theorem dSL_indexOfChar_7 : decode cSL_indexOfChar 7 = .ok (.iload 5, 2) := by decide +kernel
theorem dSL_indexOfChar_9 : decode cSL_indexOfChar 9 = .ok (.iload_n 3, 1) := by decide +kernel
theorem dSL_indexOfChar_10 : decode cSL_indexOfChar 10 = .ok (.if_icmp .ge 21, 3) := by decide +kernel
theorem dSL_indexOfChar_13 : decode cSL_indexOfChar 13 = .ok (.aload_n 0, 1) := by decide +kernel
theorem dSL_indexOfChar_14 : decode cSL_indexOfChar 14 = .ok (.iload 5, 2) := by decide +kernel
theorem dSL_indexOfChar_16 : decode cSL_indexOfChar 16 = .ok (.baload, 1) := by decide +kernel
theorem dSL_indexOfChar_17 : decode cSL_indexOfChar 17 = .ok (.iload 4, 2) := by decide +kernel
theorem dSL_indexOfChar_19 : decode cSL_indexOfChar 19 = .ok (.if_icmp .ne 6, 3) := by decide +kernel
theorem dSL_indexOfChar_22 : decode cSL_indexOfChar 22 = .ok (.iload 5, 2) := by decide +kernel
theorem dSL_indexOfChar_24 : decode cSL_indexOfChar 24 = .ok (.ireturn, 1) := by decide +kernel
theorem dSL_indexOfChar_25 : decode cSL_indexOfChar 25 = .ok (.iinc 5 1, 3) := by decide +kernel
theorem dSL_indexOfChar_28 : decode cSL_indexOfChar 28 = .ok (.goto (-21), 3) := by decide +kernel
theorem dSL_indexOfChar_31 : decode cSL_indexOfChar 31 = .ok (.iconst (-1), 1) := by decide +kernel
theorem dSL_indexOfChar_32 : decode cSL_indexOfChar 32 = .ok (.ireturn, 1) := by decide +kernel
theorem dS_charAt_0 : decode cS_charAt 0 = .ok (.aload_n 0, 1) := by decide +kernel
theorem dS_charAt_1 : decode cS_charAt 1 = .ok (.invokevirtual 492, 3) := by decide +kernel
theorem dS_charAt_4 : decode cS_charAt 4 = .ok (.ifCond .eq 12, 3) := by decide +kernel
theorem dS_charAt_7 : decode cS_charAt 7 = .ok (.aload_n 0, 1) := by decide +kernel
theorem dS_charAt_8 : decode cS_charAt 8 = .ok (.getfield 9, 3) := by decide +kernel
theorem dS_charAt_11 : decode cS_charAt 11 = .ok (.iload_n 1, 1) := by decide +kernel
theorem dS_charAt_12 : decode cS_charAt 12 = .ok (.invokestatic 495, 3) := by decide +kernel
theorem dS_charAt_15 : decode cS_charAt 15 = .ok (.ireturn, 1) := by decide +kernel
theorem dS_coder_0 : decode cS_coder 0 = .ok (.getstatic 38, 3) := by decide +kernel
theorem dS_coder_3 : decode cS_coder 3 = .ok (.ifCond .eq 10, 3) := by decide +kernel
theorem dS_coder_6 : decode cS_coder 6 = .ok (.aload_n 0, 1) := by decide +kernel
theorem dS_coder_7 : decode cS_coder 7 = .ok (.getfield 15, 3) := by decide +kernel
theorem dS_coder_10 : decode cS_coder 10 = .ok (.goto 4, 3) := by decide +kernel
theorem dS_coder_14 : decode cS_coder 14 = .ok (.ireturn, 1) := by decide +kernel
theorem dS_indexOf_0 : decode cS_indexOf 0 = .ok (.aload_n 0, 1) := by decide +kernel
theorem dS_indexOf_1 : decode cS_indexOf 1 = .ok (.iload_n 1, 1) := by decide +kernel
theorem dS_indexOf_2 : decode cS_indexOf 2 = .ok (.iconst 0, 1) := by decide +kernel
theorem dS_indexOf_3 : decode cS_indexOf 3 = .ok (.invokevirtual 633, 3) := by decide +kernel
theorem dS_indexOf_6 : decode cS_indexOf 6 = .ok (.ireturn, 1) := by decide +kernel
theorem dS_indexOf2_0 : decode cS_indexOf2 0 = .ok (.aload_n 0, 1) := by decide +kernel
theorem dS_indexOf2_1 : decode cS_indexOf2 1 = .ok (.invokevirtual 492, 3) := by decide +kernel
theorem dS_indexOf2_4 : decode cS_indexOf2 4 = .ok (.ifCond .eq 19, 3) := by decide +kernel
theorem dS_indexOf2_7 : decode cS_indexOf2 7 = .ok (.aload_n 0, 1) := by decide +kernel
theorem dS_indexOf2_8 : decode cS_indexOf2 8 = .ok (.getfield 9, 3) := by decide +kernel
theorem dS_indexOf2_11 : decode cS_indexOf2 11 = .ok (.iload_n 1, 1) := by decide +kernel
theorem dS_indexOf2_12 : decode cS_indexOf2 12 = .ok (.iload_n 2, 1) := by decide +kernel
theorem dS_indexOf2_13 : decode cS_indexOf2 13 = .ok (.aload_n 0, 1) := by decide +kernel
theorem dS_indexOf2_14 : decode cS_indexOf2 14 = .ok (.invokevirtual 505, 3) := by decide +kernel
theorem dS_indexOf2_17 : decode cS_indexOf2 17 = .ok (.invokestatic 637, 3) := by decide +kernel
theorem dS_indexOf2_20 : decode cS_indexOf2 20 = .ok (.goto 16, 3) := by decide +kernel
theorem dS_indexOf2_36 : decode cS_indexOf2 36 = .ok (.ireturn, 1) := by decide +kernel
theorem dS_isLatin1_0 : decode cS_isLatin1 0 = .ok (.getstatic 38, 3) := by decide +kernel
theorem dS_isLatin1_3 : decode cS_isLatin1 3 = .ok (.ifCond .eq 14, 3) := by decide +kernel
theorem dS_isLatin1_6 : decode cS_isLatin1 6 = .ok (.aload_n 0, 1) := by decide +kernel
theorem dS_isLatin1_7 : decode cS_isLatin1 7 = .ok (.getfield 15, 3) := by decide +kernel
theorem dS_isLatin1_10 : decode cS_isLatin1 10 = .ok (.ifCond .ne 7, 3) := by decide +kernel
theorem dS_isLatin1_13 : decode cS_isLatin1 13 = .ok (.iconst 1, 1) := by decide +kernel
theorem dS_isLatin1_14 : decode cS_isLatin1 14 = .ok (.goto 4, 3) := by decide +kernel
theorem dS_isLatin1_18 : decode cS_isLatin1 18 = .ok (.ireturn, 1) := by decide +kernel
theorem dS_length_0 : decode cS_length 0 = .ok (.aload_n 0, 1) := by decide +kernel
theorem dS_length_1 : decode cS_length 1 = .ok (.getfield 9, 3) := by decide +kernel
theorem dS_length_4 : decode cS_length 4 = .ok (.arraylength, 1) := by decide +kernel
theorem dS_length_5 : decode cS_length 5 = .ok (.aload_n 0, 1) := by decide +kernel
theorem dS_length_6 : decode cS_length 6 = .ok (.invokevirtual 335, 3) := by decide +kernel
theorem dS_length_9 : decode cS_length 9 = .ok (.ishr, 1) := by decide +kernel
theorem dS_length_10 : decode cS_length 10 = .ok (.ireturn, 1) := by decide +kernel
