set_option maxHeartbeats 4000000 in
set_option maxRecDepth 100000 in
theorem law_case_20 {p : Program} {l : Launch} {e : Env} {s : State} {m : MethodId} {below : List Frame} {meth : Method} {c : Code} {b L : Nat} {xs : Nat → Int32} {A : Nat → Prop} {G : va_G} {cy : Nat → ClassId} {ad : rf → Nat} {ce sl : Nat} {Z : State → Prop} (X : LX p s m c b L xs A G cy ad ce sl) {i : Int32} {M : mM} (hI : Inv M) (hD : InvD M) (hR : RY M.1) (hi : 0 ≤ i.toInt ∧ i.toInt + 6 ≤ (L : Int)) (hend : ∀ M' : mM, Inv M' → InvD M' → RY M'.1 → WL p l e s m below meth c b A G cy ad ce sl Z 1731 [(3, vI i), (0, vR (94, 0, 0)), (1, vR (11, 0, 0)), (2, vR (12, 0, 0))] [] M') : WL p l e s m below meth c b A G cy ad ce sl Z 958 [(3, vI i), (0, vR (94, 0, 0)), (1, vR (11, 0, 0)), (2, vR (12, 0, 0))] [] M := by
  refine wl_aload_n X dL_law_958 rfl 2 rfl ?_
  refine wl_arg X 1 hi (by decide) (v := 1) (by decide) (ki := 1) (by decide) 1 0 rfl rfl dL_law_959 dL_law_960 dL_law_961 dL_law_962 dL_law_963 ?_
  refine wl_arg X 2 hi (by decide) (v := 2) (by decide) (ki := 2) (by decide) 1 0 rfl rfl dL_law_964 dL_law_965 dL_law_966 dL_law_967 dL_law_968 ?_
  refine wl_arg X 3 hi (by decide) (v := 3) (by decide) (ki := 3) (by decide) 1 0 rfl rfl dL_law_969 dL_law_970 dL_law_971 dL_law_972 dL_law_973 ?_
  refine wl_arg X 4 hi (by decide) (v := 4) (by decide) (ki := 4) (by decide) 1 0 rfl rfl dL_law_974 dL_law_975 dL_law_976 dL_law_977 dL_law_978 ?_
  refine wl_arg X 5 hi (by decide) (v := 5) (by decide) (ki := 5) (by decide) 1 0 rfl rfl dL_law_979 dL_law_980 dL_law_981 dL_law_982 dL_law_983 ?_
  refine wl_callC X (as := [vI (xs (i.toInt.toNat + 1)), vI (xs (i.toInt.toNat + 2)), vI (xs (i.toInt.toNat + 3)), vI (xs (i.toInt.toNat + 4)), vI (xs (i.toInt.toNat + 5))]) (rest := []) (c_X11_alike l G cy ad 0 (xs (i.toInt.toNat + 1)) (xs (i.toInt.toNat + 2)) (xs (i.toInt.toNat + 3)) (xs (i.toInt.toNat + 4)) (xs (i.toInt.toNat + 5)) M hI) kV_X11_alike (by decide +kernel) (Nat.le_of_ble_eq_true rfl) m_947 rfl rfl rfl (by decide) (Nat.le_of_ble_eq_true rfl) (Nat.le_of_ble_eq_true rfl) dL_law_984 (fun r1_ M2_ q3_ => ?_)
  obtain ⟨hI1_, hF1_, -, hs1_⟩ := q3_
  have e1_ : mgC M2_ M = M2_ := mgC_self hF1_ SC_X11_alike
  rw [e1_]
  have hD1_ : InvD M2_ := e1_ ▸ mgC_D (M' := M2_) hD
  refine wl_pop X dL_law_987 ?_
  refine wl_aload_n X dL_law_988 rfl 3 rfl ?_
  refine wl_arg X 1 hi (by decide) (v := 1) (by decide) (ki := 1) (by decide) 1 0 rfl rfl dL_law_989 dL_law_990 dL_law_991 dL_law_992 dL_law_993 ?_
  refine wl_arg X 2 hi (by decide) (v := 2) (by decide) (ki := 2) (by decide) 1 0 rfl rfl dL_law_994 dL_law_995 dL_law_996 dL_law_997 dL_law_998 ?_
  refine wl_arg X 3 hi (by decide) (v := 3) (by decide) (ki := 3) (by decide) 1 0 rfl rfl dL_law_999 dL_law_1000 dL_law_1001 dL_law_1002 dL_law_1003 ?_
  refine wl_arg X 4 hi (by decide) (v := 4) (by decide) (ki := 4) (by decide) 1 0 rfl rfl dL_law_1004 dL_law_1005 dL_law_1006 dL_law_1007 dL_law_1008 ?_
  refine wl_arg X 5 hi (by decide) (v := 5) (by decide) (ki := 5) (by decide) 1 0 rfl rfl dL_law_1009 dL_law_1010 dL_law_1011 dL_law_1012 dL_law_1013 ?_
  refine wl_callD X (as := [vI (xs (i.toInt.toNat + 1)), vI (xs (i.toInt.toNat + 2)), vI (xs (i.toInt.toNat + 3)), vI (xs (i.toInt.toNat + 4)), vI (xs (i.toInt.toNat + 5))]) (rest := []) (c_X12_alike l G cy ad 0 (xs (i.toInt.toNat + 1)) (xs (i.toInt.toNat + 2)) (xs (i.toInt.toNat + 3)) (xs (i.toInt.toNat + 4)) (xs (i.toInt.toNat + 5)) M2_ hD1_) kV_X12_alike (by decide +kernel) (Nat.le_of_ble_eq_true rfl) m_1703 rfl rfl rfl (by decide) (Nat.le_of_ble_eq_true rfl) (Nat.le_of_ble_eq_true rfl) dL_law_1014 (fun r4_ M5_ q6_ => ?_)
  obtain ⟨hI2_, hF2_, -, hs2_⟩ := q6_
  have e2_ : (mgD M5_ M2_).1 = M5_.1 := mgD_self hF2_ SD_X12_alike
  have hI9_ : Inv (mgD M5_ M2_) := mgD_I hI1_
  have hD9_ : InvD (mgD M5_ M2_) := mgD_D hI2_
  have st_ := sy_20 hR hD hD1_ hI2_ hF1_ hs1_ hF2_ hs2_
  refine wl_pop X dL_law_1017 ?_
  refine wl_goto X (tgt := 1731) dL_law_1018 (by decide) ?_
  exact hend _ hI9_ hD9_ (by rw [e2_]; exact st_.1)
set_option maxHeartbeats 4000000 in
set_option maxRecDepth 100000 in
theorem law_case_21 {p : Program} {l : Launch} {e : Env} {s : State} {m : MethodId} {below : List Frame} {meth : Method} {c : Code} {b L : Nat} {xs : Nat → Int32} {A : Nat → Prop} {G : va_G} {cy : Nat → ClassId} {ad : rf → Nat} {ce sl : Nat} {Z : State → Prop} (X : LX p s m c b L xs A G cy ad ce sl) {i : Int32} {M : mM} (hI : Inv M) (hD : InvD M) (hR : RY M.1) (hi : 0 ≤ i.toInt ∧ i.toInt + 6 ≤ (L : Int)) (hend : ∀ M' : mM, Inv M' → InvD M' → RY M'.1 → WL p l e s m below meth c b A G cy ad ce sl Z 1731 [(3, vI i), (0, vR (94, 0, 0)), (1, vR (11, 0, 0)), (2, vR (12, 0, 0))] [] M') : WL p l e s m below meth c b A G cy ad ce sl Z 1021 [(3, vI i), (0, vR (94, 0, 0)), (1, vR (11, 0, 0)), (2, vR (12, 0, 0))] [] M := by
  refine wl_aload_n X dL_law_1021 rfl 2 rfl ?_
  refine wl_arg X 1 hi (by decide) (v := 1) (by decide) (ki := 1) (by decide) 1 0 rfl rfl dL_law_1022 dL_law_1023 dL_law_1024 dL_law_1025 dL_law_1026 ?_
  refine wl_arg X 2 hi (by decide) (v := 2) (by decide) (ki := 2) (by decide) 1 0 rfl rfl dL_law_1027 dL_law_1028 dL_law_1029 dL_law_1030 dL_law_1031 ?_
  refine wl_arg X 3 hi (by decide) (v := 3) (by decide) (ki := 3) (by decide) 1 0 rfl rfl dL_law_1032 dL_law_1033 dL_law_1034 dL_law_1035 dL_law_1036 ?_
  refine wl_arg X 4 hi (by decide) (v := 4) (by decide) (ki := 4) (by decide) 1 0 rfl rfl dL_law_1037 dL_law_1038 dL_law_1039 dL_law_1040 dL_law_1041 ?_
  refine wl_callC X (as := [vI (xs (i.toInt.toNat + 1)), vI (xs (i.toInt.toNat + 2)), vI (xs (i.toInt.toNat + 3)), vI (xs (i.toInt.toNat + 4))]) (rest := []) (c_X11_least l G cy ad 0 (xs (i.toInt.toNat + 1)) (xs (i.toInt.toNat + 2)) (xs (i.toInt.toNat + 3)) (xs (i.toInt.toNat + 4)) M hI) kV_X11_least (by decide +kernel) (Nat.le_of_ble_eq_true rfl) m_957 rfl rfl rfl (by decide) (Nat.le_of_ble_eq_true rfl) (Nat.le_of_ble_eq_true rfl) dL_law_1042 (fun r1_ M2_ q3_ => ?_)
  obtain ⟨hI1_, hF1_, -, hs1_⟩ := q3_
  have e1_ : mgC M2_ M = M2_ := mgC_self hF1_ SC_X11_least
  rw [e1_]
  have hD1_ : InvD M2_ := e1_ ▸ mgC_D (M' := M2_) hD
  refine wl_pop X dL_law_1045 ?_
  refine wl_aload_n X dL_law_1046 rfl 3 rfl ?_
  refine wl_arg X 1 hi (by decide) (v := 1) (by decide) (ki := 1) (by decide) 1 0 rfl rfl dL_law_1047 dL_law_1048 dL_law_1049 dL_law_1050 dL_law_1051 ?_
  refine wl_arg X 2 hi (by decide) (v := 2) (by decide) (ki := 2) (by decide) 1 0 rfl rfl dL_law_1052 dL_law_1053 dL_law_1054 dL_law_1055 dL_law_1056 ?_
  refine wl_arg X 3 hi (by decide) (v := 3) (by decide) (ki := 3) (by decide) 1 0 rfl rfl dL_law_1057 dL_law_1058 dL_law_1059 dL_law_1060 dL_law_1061 ?_
  refine wl_arg X 4 hi (by decide) (v := 4) (by decide) (ki := 4) (by decide) 1 0 rfl rfl dL_law_1062 dL_law_1063 dL_law_1064 dL_law_1065 dL_law_1066 ?_
  refine wl_callD X (as := [vI (xs (i.toInt.toNat + 1)), vI (xs (i.toInt.toNat + 2)), vI (xs (i.toInt.toNat + 3)), vI (xs (i.toInt.toNat + 4))]) (rest := []) (c_X12_least l G cy ad 0 (xs (i.toInt.toNat + 1)) (xs (i.toInt.toNat + 2)) (xs (i.toInt.toNat + 3)) (xs (i.toInt.toNat + 4)) M2_ hD1_) kV_X12_least (by decide +kernel) (Nat.le_of_ble_eq_true rfl) m_1707 rfl rfl rfl (by decide) (Nat.le_of_ble_eq_true rfl) (Nat.le_of_ble_eq_true rfl) dL_law_1067 (fun r4_ M5_ q6_ => ?_)
  obtain ⟨hI2_, hF2_, -, hs2_⟩ := q6_
  have e2_ : (mgD M5_ M2_).1 = M5_.1 := mgD_self hF2_ SD_X12_least
  have hI9_ : Inv (mgD M5_ M2_) := mgD_I hI1_
  have hD9_ : InvD (mgD M5_ M2_) := mgD_D hI2_
  have st_ := sy_21 hR hD hD1_ hI2_ hF1_ hs1_ hF2_ hs2_
  refine wl_pop X dL_law_1070 ?_
  refine wl_goto X (tgt := 1731) dL_law_1071 (by decide) ?_
  exact hend _ hI9_ hD9_ (by rw [e2_]; exact st_.1)
set_option maxHeartbeats 4000000 in
set_option maxRecDepth 100000 in
theorem law_case_22 {p : Program} {l : Launch} {e : Env} {s : State} {m : MethodId} {below : List Frame} {meth : Method} {c : Code} {b L : Nat} {xs : Nat → Int32} {A : Nat → Prop} {G : va_G} {cy : Nat → ClassId} {ad : rf → Nat} {ce sl : Nat} {Z : State → Prop} (X : LX p s m c b L xs A G cy ad ce sl) {i : Int32} {M : mM} (hI : Inv M) (hD : InvD M) (hR : RY M.1) (hi : 0 ≤ i.toInt ∧ i.toInt + 6 ≤ (L : Int)) (hend : ∀ M' : mM, Inv M' → InvD M' → RY M'.1 → WL p l e s m below meth c b A G cy ad ce sl Z 1731 [(3, vI i), (0, vR (94, 0, 0)), (1, vR (11, 0, 0)), (2, vR (12, 0, 0))] [] M') : WL p l e s m below meth c b A G cy ad ce sl Z 1074 [(3, vI i), (0, vR (94, 0, 0)), (1, vR (11, 0, 0)), (2, vR (12, 0, 0))] [] M := by
  refine wl_aload_n X dL_law_1074 rfl 2 rfl ?_
  refine wl_arg X 1 hi (by decide) (v := 1) (by decide) (ki := 1) (by decide) 1 0 rfl rfl dL_law_1075 dL_law_1076 dL_law_1077 dL_law_1078 dL_law_1079 ?_
  refine wl_arg X 2 hi (by decide) (v := 2) (by decide) (ki := 2) (by decide) 1 0 rfl rfl dL_law_1080 dL_law_1081 dL_law_1082 dL_law_1083 dL_law_1084 ?_
  refine wl_arg X 3 hi (by decide) (v := 3) (by decide) (ki := 3) (by decide) 1 0 rfl rfl dL_law_1085 dL_law_1086 dL_law_1087 dL_law_1088 dL_law_1089 ?_
  refine wl_callC X (as := [vI (xs (i.toInt.toNat + 1)), vI (xs (i.toInt.toNat + 2)), vI (xs (i.toInt.toNat + 3))]) (rest := []) (c_X11_farthest l G cy ad 0 (xs (i.toInt.toNat + 1)) (xs (i.toInt.toNat + 2)) (xs (i.toInt.toNat + 3)) M hI) kV_X11_farthest (by decide +kernel) (Nat.le_of_ble_eq_true rfl) m_969 rfl rfl rfl (by decide) (Nat.le_of_ble_eq_true rfl) (Nat.le_of_ble_eq_true rfl) dL_law_1090 (fun r1_ M2_ q3_ => ?_)
  obtain ⟨hI1_, hF1_, -, hs1_⟩ := q3_
  have e1_ : mgC M2_ M = M2_ := mgC_self hF1_ SC_X11_farthest
  rw [e1_]
  have hD1_ : InvD M2_ := e1_ ▸ mgC_D (M' := M2_) hD
  refine wl_pop X dL_law_1093 ?_
  refine wl_aload_n X dL_law_1094 rfl 3 rfl ?_
  refine wl_arg X 1 hi (by decide) (v := 1) (by decide) (ki := 1) (by decide) 1 0 rfl rfl dL_law_1095 dL_law_1096 dL_law_1097 dL_law_1098 dL_law_1099 ?_
  refine wl_arg X 2 hi (by decide) (v := 2) (by decide) (ki := 2) (by decide) 1 0 rfl rfl dL_law_1100 dL_law_1101 dL_law_1102 dL_law_1103 dL_law_1104 ?_
  refine wl_arg X 3 hi (by decide) (v := 3) (by decide) (ki := 3) (by decide) 1 0 rfl rfl dL_law_1105 dL_law_1106 dL_law_1107 dL_law_1108 dL_law_1109 ?_
  refine wl_callD X (as := [vI (xs (i.toInt.toNat + 1)), vI (xs (i.toInt.toNat + 2)), vI (xs (i.toInt.toNat + 3))]) (rest := []) (c_X12_farthest l G cy ad 0 (xs (i.toInt.toNat + 1)) (xs (i.toInt.toNat + 2)) (xs (i.toInt.toNat + 3)) M2_ hD1_) kV_X12_farthest (by decide +kernel) (Nat.le_of_ble_eq_true rfl) m_1711 rfl rfl rfl (by decide) (Nat.le_of_ble_eq_true rfl) (Nat.le_of_ble_eq_true rfl) dL_law_1110 (fun r4_ M5_ q6_ => ?_)
  obtain ⟨hI2_, hF2_, -, hs2_⟩ := q6_
  have e2_ : (mgD M5_ M2_).1 = M5_.1 := mgD_self hF2_ SD_X12_farthest
  have hI9_ : Inv (mgD M5_ M2_) := mgD_I hI1_
  have hD9_ : InvD (mgD M5_ M2_) := mgD_D hI2_
  have st_ := sy_22 hR hD hD1_ hI2_ hF1_ hs1_ hF2_ hs2_
  refine wl_pop X dL_law_1113 ?_
  refine wl_goto X (tgt := 1731) dL_law_1114 (by decide) ?_
  exact hend _ hI9_ hD9_ (by rw [e2_]; exact st_.1)
set_option maxHeartbeats 4000000 in
set_option maxRecDepth 100000 in
theorem law_case_23 {p : Program} {l : Launch} {e : Env} {s : State} {m : MethodId} {below : List Frame} {meth : Method} {c : Code} {b L : Nat} {xs : Nat → Int32} {A : Nat → Prop} {G : va_G} {cy : Nat → ClassId} {ad : rf → Nat} {ce sl : Nat} {Z : State → Prop} (X : LX p s m c b L xs A G cy ad ce sl) {i : Int32} {M : mM} (hI : Inv M) (hD : InvD M) (hR : RY M.1) (hi : 0 ≤ i.toInt ∧ i.toInt + 6 ≤ (L : Int)) (hend : ∀ M' : mM, Inv M' → InvD M' → RY M'.1 → WL p l e s m below meth c b A G cy ad ce sl Z 1731 [(3, vI i), (0, vR (94, 0, 0)), (1, vR (11, 0, 0)), (2, vR (12, 0, 0))] [] M') : WL p l e s m below meth c b A G cy ad ce sl Z 1117 [(3, vI i), (0, vR (94, 0, 0)), (1, vR (11, 0, 0)), (2, vR (12, 0, 0))] [] M := by
  refine wl_aload_n X dL_law_1117 rfl 2 rfl ?_
  refine wl_arg X 1 hi (by decide) (v := 1) (by decide) (ki := 1) (by decide) 1 0 rfl rfl dL_law_1118 dL_law_1119 dL_law_1120 dL_law_1121 dL_law_1122 ?_
  refine wl_arg X 2 hi (by decide) (v := 2) (by decide) (ki := 2) (by decide) 1 0 rfl rfl dL_law_1123 dL_law_1124 dL_law_1125 dL_law_1126 dL_law_1127 ?_
  refine wl_arg X 3 hi (by decide) (v := 3) (by decide) (ki := 3) (by decide) 1 0 rfl rfl dL_law_1128 dL_law_1129 dL_law_1130 dL_law_1131 dL_law_1132 ?_
  refine wl_arg X 4 hi (by decide) (v := 4) (by decide) (ki := 4) (by decide) 1 0 rfl rfl dL_law_1133 dL_law_1134 dL_law_1135 dL_law_1136 dL_law_1137 ?_
  refine wl_callC X (as := [vI (xs (i.toInt.toNat + 1)), vI (xs (i.toInt.toNat + 2)), vI (xs (i.toInt.toNat + 3)), vI (xs (i.toInt.toNat + 4))]) (rest := []) (c_X11_spots l G cy ad 0 (xs (i.toInt.toNat + 1)) (xs (i.toInt.toNat + 2)) (xs (i.toInt.toNat + 3)) (xs (i.toInt.toNat + 4)) M hI) kV_X11_spots (by decide +kernel) (Nat.le_of_ble_eq_true rfl) m_974 rfl rfl rfl (by decide) (Nat.le_of_ble_eq_true rfl) (Nat.le_of_ble_eq_true rfl) dL_law_1138 (fun r1_ M2_ q3_ => ?_)
  obtain ⟨hI1_, hF1_, -, hs1_⟩ := q3_
  have e1_ : mgC M2_ M = M2_ := mgC_self hF1_ SC_X11_spots
  rw [e1_]
  have hD1_ : InvD M2_ := e1_ ▸ mgC_D (M' := M2_) hD
  refine wl_pop X dL_law_1141 ?_
  refine wl_aload_n X dL_law_1142 rfl 3 rfl ?_
  refine wl_arg X 1 hi (by decide) (v := 1) (by decide) (ki := 1) (by decide) 1 0 rfl rfl dL_law_1143 dL_law_1144 dL_law_1145 dL_law_1146 dL_law_1147 ?_
  refine wl_arg X 2 hi (by decide) (v := 2) (by decide) (ki := 2) (by decide) 1 0 rfl rfl dL_law_1148 dL_law_1149 dL_law_1150 dL_law_1151 dL_law_1152 ?_
  refine wl_arg X 3 hi (by decide) (v := 3) (by decide) (ki := 3) (by decide) 1 0 rfl rfl dL_law_1153 dL_law_1154 dL_law_1155 dL_law_1156 dL_law_1157 ?_
  refine wl_arg X 4 hi (by decide) (v := 4) (by decide) (ki := 4) (by decide) 1 0 rfl rfl dL_law_1158 dL_law_1159 dL_law_1160 dL_law_1161 dL_law_1162 ?_
  refine wl_callD X (as := [vI (xs (i.toInt.toNat + 1)), vI (xs (i.toInt.toNat + 2)), vI (xs (i.toInt.toNat + 3)), vI (xs (i.toInt.toNat + 4))]) (rest := []) (c_X12_spots l G cy ad 0 (xs (i.toInt.toNat + 1)) (xs (i.toInt.toNat + 2)) (xs (i.toInt.toNat + 3)) (xs (i.toInt.toNat + 4)) M2_ hD1_) kV_X12_spots (by decide +kernel) (Nat.le_of_ble_eq_true rfl) m_1715 rfl rfl rfl (by decide) (Nat.le_of_ble_eq_true rfl) (Nat.le_of_ble_eq_true rfl) dL_law_1163 (fun r4_ M5_ q6_ => ?_)
  obtain ⟨hI2_, hF2_, -, hs2_⟩ := q6_
  have e2_ : (mgD M5_ M2_).1 = M5_.1 := mgD_self hF2_ SD_X12_spots
  have hI9_ : Inv (mgD M5_ M2_) := mgD_I hI1_
  have hD9_ : InvD (mgD M5_ M2_) := mgD_D hI2_
  have st_ := sy_23 hR hD hD1_ hI2_ hF1_ hs1_ hF2_ hs2_
  refine wl_pop X dL_law_1166 ?_
  refine wl_goto X (tgt := 1731) dL_law_1167 (by decide) ?_
  exact hend _ hI9_ hD9_ (by rw [e2_]; exact st_.1)
set_option maxHeartbeats 4000000 in
set_option maxRecDepth 100000 in
theorem law_case_24 {p : Program} {l : Launch} {e : Env} {s : State} {m : MethodId} {below : List Frame} {meth : Method} {c : Code} {b L : Nat} {xs : Nat → Int32} {A : Nat → Prop} {G : va_G} {cy : Nat → ClassId} {ad : rf → Nat} {ce sl : Nat} {Z : State → Prop} (X : LX p s m c b L xs A G cy ad ce sl) {i : Int32} {M : mM} (hI : Inv M) (hD : InvD M) (hR : RY M.1) (hi : 0 ≤ i.toInt ∧ i.toInt + 6 ≤ (L : Int)) (hend : ∀ M' : mM, Inv M' → InvD M' → RY M'.1 → WL p l e s m below meth c b A G cy ad ce sl Z 1731 [(3, vI i), (0, vR (94, 0, 0)), (1, vR (11, 0, 0)), (2, vR (12, 0, 0))] [] M') : WL p l e s m below meth c b A G cy ad ce sl Z 1170 [(3, vI i), (0, vR (94, 0, 0)), (1, vR (11, 0, 0)), (2, vR (12, 0, 0))] [] M := by
  refine wl_aload_n X dL_law_1170 rfl 2 rfl ?_
  refine wl_arg X 1 hi (by decide) (v := 1) (by decide) (ki := 1) (by decide) 1 0 rfl rfl dL_law_1171 dL_law_1172 dL_law_1173 dL_law_1174 dL_law_1175 ?_
  refine wl_callC X (as := [vI (xs (i.toInt.toNat + 1))]) (rest := []) (c_X11_tenths l G cy ad 0 (xs (i.toInt.toNat + 1)) M hI) kV_X11_tenths (by decide +kernel) (Nat.le_of_ble_eq_true rfl) m_1021 rfl rfl rfl (by decide) (Nat.le_of_ble_eq_true rfl) (Nat.le_of_ble_eq_true rfl) dL_law_1176 (fun r1_ M2_ q3_ => ?_)
  obtain ⟨hI1_, hF1_, -, hs1_⟩ := q3_
  have e1_ : mgC M2_ M = M2_ := mgC_self hF1_ SC_X11_tenths
  rw [e1_]
  have hD1_ : InvD M2_ := e1_ ▸ mgC_D (M' := M2_) hD
  refine wl_pop X dL_law_1179 ?_
  refine wl_aload_n X dL_law_1180 rfl 3 rfl ?_
  refine wl_arg X 1 hi (by decide) (v := 1) (by decide) (ki := 1) (by decide) 1 0 rfl rfl dL_law_1181 dL_law_1182 dL_law_1183 dL_law_1184 dL_law_1185 ?_
  refine wl_callD X (as := [vI (xs (i.toInt.toNat + 1))]) (rest := []) (c_X12_tenths l G cy ad 0 (xs (i.toInt.toNat + 1)) M2_ hD1_) kV_X12_tenths (by decide +kernel) (Nat.le_of_ble_eq_true rfl) m_1734 rfl rfl rfl (by decide) (Nat.le_of_ble_eq_true rfl) (Nat.le_of_ble_eq_true rfl) dL_law_1186 (fun r4_ M5_ q6_ => ?_)
  obtain ⟨hI2_, hF2_, -, hs2_⟩ := q6_
  have e2_ : (mgD M5_ M2_).1 = M5_.1 := mgD_self hF2_ SD_X12_tenths
  have hI9_ : Inv (mgD M5_ M2_) := mgD_I hI1_
  have hD9_ : InvD (mgD M5_ M2_) := mgD_D hI2_
  have st_ := sy_24 hR hD hD1_ hI2_ hF1_ hs1_ hF2_ hs2_
  refine wl_pop X dL_law_1189 ?_
  refine wl_goto X (tgt := 1731) dL_law_1190 (by decide) ?_
  exact hend _ hI9_ hD9_ (by rw [e2_]; exact st_.1)
set_option maxHeartbeats 4000000 in
set_option maxRecDepth 100000 in
theorem law_case_25 {p : Program} {l : Launch} {e : Env} {s : State} {m : MethodId} {below : List Frame} {meth : Method} {c : Code} {b L : Nat} {xs : Nat → Int32} {A : Nat → Prop} {G : va_G} {cy : Nat → ClassId} {ad : rf → Nat} {ce sl : Nat} {Z : State → Prop} (X : LX p s m c b L xs A G cy ad ce sl) {i : Int32} {M : mM} (hI : Inv M) (hD : InvD M) (hR : RY M.1) (hi : 0 ≤ i.toInt ∧ i.toInt + 6 ≤ (L : Int)) (hend : ∀ M' : mM, Inv M' → InvD M' → RY M'.1 → WL p l e s m below meth c b A G cy ad ce sl Z 1731 [(3, vI i), (0, vR (94, 0, 0)), (1, vR (11, 0, 0)), (2, vR (12, 0, 0))] [] M') : WL p l e s m below meth c b A G cy ad ce sl Z 1193 [(3, vI i), (0, vR (94, 0, 0)), (1, vR (11, 0, 0)), (2, vR (12, 0, 0))] [] M := by
  refine wl_aload_n X dL_law_1193 rfl 2 rfl ?_
  refine wl_arg X 1 hi (by decide) (v := 1) (by decide) (ki := 1) (by decide) 1 0 rfl rfl dL_law_1194 dL_law_1195 dL_law_1196 dL_law_1197 dL_law_1198 ?_
  refine wl_arg X 2 hi (by decide) (v := 2) (by decide) (ki := 2) (by decide) 1 0 rfl rfl dL_law_1199 dL_law_1200 dL_law_1201 dL_law_1202 dL_law_1203 ?_
  refine wl_arg X 3 hi (by decide) (v := 3) (by decide) (ki := 3) (by decide) 1 0 rfl rfl dL_law_1204 dL_law_1205 dL_law_1206 dL_law_1207 dL_law_1208 ?_
  refine wl_callC X (as := [vI (xs (i.toInt.toNat + 1)), vI (xs (i.toInt.toNat + 2)), vI (xs (i.toInt.toNat + 3))]) (rest := []) (c_X11_way l G cy ad 0 (xs (i.toInt.toNat + 1)) (xs (i.toInt.toNat + 2)) (xs (i.toInt.toNat + 3)) M hI) kV_X11_way (by decide +kernel) (Nat.le_of_ble_eq_true rfl) m_1067 rfl rfl rfl (by decide) (Nat.le_of_ble_eq_true rfl) (Nat.le_of_ble_eq_true rfl) dL_law_1209 (fun r1_ M2_ q3_ => ?_)
  obtain ⟨hI1_, hF1_, -, hs1_⟩ := q3_
  have e1_ : mgC M2_ M = M2_ := mgC_self hF1_ SC_X11_way
  rw [e1_]
  have hD1_ : InvD M2_ := e1_ ▸ mgC_D (M' := M2_) hD
  refine wl_pop X dL_law_1212 ?_
  refine wl_aload_n X dL_law_1213 rfl 3 rfl ?_
  refine wl_arg X 1 hi (by decide) (v := 1) (by decide) (ki := 1) (by decide) 1 0 rfl rfl dL_law_1214 dL_law_1215 dL_law_1216 dL_law_1217 dL_law_1218 ?_
  refine wl_arg X 2 hi (by decide) (v := 2) (by decide) (ki := 2) (by decide) 1 0 rfl rfl dL_law_1219 dL_law_1220 dL_law_1221 dL_law_1222 dL_law_1223 ?_
  refine wl_arg X 3 hi (by decide) (v := 3) (by decide) (ki := 3) (by decide) 1 0 rfl rfl dL_law_1224 dL_law_1225 dL_law_1226 dL_law_1227 dL_law_1228 ?_
  refine wl_callD X (as := [vI (xs (i.toInt.toNat + 1)), vI (xs (i.toInt.toNat + 2)), vI (xs (i.toInt.toNat + 3))]) (rest := []) (c_X12_way l G cy ad 0 (xs (i.toInt.toNat + 1)) (xs (i.toInt.toNat + 2)) (xs (i.toInt.toNat + 3)) M2_ hD1_) kV_X12_way (by decide +kernel) (Nat.le_of_ble_eq_true rfl) m_1762 rfl rfl rfl (by decide) (Nat.le_of_ble_eq_true rfl) (Nat.le_of_ble_eq_true rfl) dL_law_1229 (fun r4_ M5_ q6_ => ?_)
  obtain ⟨hI2_, hF2_, -, hs2_⟩ := q6_
  have e2_ : (mgD M5_ M2_).1 = M5_.1 := mgD_self hF2_ SD_X12_way
  have hI9_ : Inv (mgD M5_ M2_) := mgD_I hI1_
  have hD9_ : InvD (mgD M5_ M2_) := mgD_D hI2_
  have st_ := sy_25 hR hD hD1_ hI2_ hF1_ hs1_ hF2_ hs2_
  refine wl_pop X dL_law_1232 ?_
  refine wl_goto X (tgt := 1731) dL_law_1233 (by decide) ?_
  exact hend _ hI9_ hD9_ (by rw [e2_]; exact st_.1)
set_option maxHeartbeats 4000000 in
set_option maxRecDepth 100000 in
theorem law_case_26 {p : Program} {l : Launch} {e : Env} {s : State} {m : MethodId} {below : List Frame} {meth : Method} {c : Code} {b L : Nat} {xs : Nat → Int32} {A : Nat → Prop} {G : va_G} {cy : Nat → ClassId} {ad : rf → Nat} {ce sl : Nat} {Z : State → Prop} (X : LX p s m c b L xs A G cy ad ce sl) {i : Int32} {M : mM} (hI : Inv M) (hD : InvD M) (hR : RY M.1) (hi : 0 ≤ i.toInt ∧ i.toInt + 6 ≤ (L : Int)) (hend : ∀ M' : mM, Inv M' → InvD M' → RY M'.1 → WL p l e s m below meth c b A G cy ad ce sl Z 1731 [(3, vI i), (0, vR (94, 0, 0)), (1, vR (11, 0, 0)), (2, vR (12, 0, 0))] [] M') : WL p l e s m below meth c b A G cy ad ce sl Z 1236 [(3, vI i), (0, vR (94, 0, 0)), (1, vR (11, 0, 0)), (2, vR (12, 0, 0))] [] M := by
  refine wl_aload_n X dL_law_1236 rfl 2 rfl ?_
  refine wl_arg X 1 hi (by decide) (v := 1) (by decide) (ki := 1) (by decide) 1 0 rfl rfl dL_law_1237 dL_law_1238 dL_law_1239 dL_law_1240 dL_law_1241 ?_
  refine wl_callC X (as := [vI (xs (i.toInt.toNat + 1))]) (rest := []) (c_X11_safe l G cy ad 0 (xs (i.toInt.toNat + 1)) M hI) kV_X11_safe (by decide +kernel) (Nat.le_of_ble_eq_true rfl) m_1098 rfl rfl rfl (by decide) (Nat.le_of_ble_eq_true rfl) (Nat.le_of_ble_eq_true rfl) dL_law_1242 (fun r1_ M2_ q3_ => ?_)
  obtain ⟨hI1_, hF1_, -, hs1_⟩ := q3_
  have e1_ : mgC M2_ M = M2_ := mgC_self hF1_ SC_X11_safe
  rw [e1_]
  have hD1_ : InvD M2_ := e1_ ▸ mgC_D (M' := M2_) hD
  refine wl_pop X dL_law_1245 ?_
  refine wl_aload_n X dL_law_1246 rfl 3 rfl ?_
  refine wl_arg X 1 hi (by decide) (v := 1) (by decide) (ki := 1) (by decide) 1 0 rfl rfl dL_law_1247 dL_law_1248 dL_law_1249 dL_law_1250 dL_law_1251 ?_
  refine wl_callD X (as := [vI (xs (i.toInt.toNat + 1))]) (rest := []) (c_X12_safe l G cy ad 0 (xs (i.toInt.toNat + 1)) M2_ hD1_) kV_X12_safe (by decide +kernel) (Nat.le_of_ble_eq_true rfl) m_1775 rfl rfl rfl (by decide) (Nat.le_of_ble_eq_true rfl) (Nat.le_of_ble_eq_true rfl) dL_law_1252 (fun r4_ M5_ q6_ => ?_)
  obtain ⟨hI2_, hF2_, -, hs2_⟩ := q6_
  have e2_ : (mgD M5_ M2_).1 = M5_.1 := mgD_self hF2_ SD_X12_safe
  have hI9_ : Inv (mgD M5_ M2_) := mgD_I hI1_
  have hD9_ : InvD (mgD M5_ M2_) := mgD_D hI2_
  have st_ := sy_26 hR hD hD1_ hI2_ hF1_ hs1_ hF2_ hs2_
  refine wl_pop X dL_law_1255 ?_
  refine wl_goto X (tgt := 1731) dL_law_1256 (by decide) ?_
  exact hend _ hI9_ hD9_ (by rw [e2_]; exact st_.1)
set_option maxHeartbeats 4000000 in
set_option maxRecDepth 100000 in
theorem law_case_27 {p : Program} {l : Launch} {e : Env} {s : State} {m : MethodId} {below : List Frame} {meth : Method} {c : Code} {b L : Nat} {xs : Nat → Int32} {A : Nat → Prop} {G : va_G} {cy : Nat → ClassId} {ad : rf → Nat} {ce sl : Nat} {Z : State → Prop} (X : LX p s m c b L xs A G cy ad ce sl) {i : Int32} {M : mM} (hI : Inv M) (hD : InvD M) (hR : RY M.1) (hi : 0 ≤ i.toInt ∧ i.toInt + 6 ≤ (L : Int)) (hend : ∀ M' : mM, Inv M' → InvD M' → RY M'.1 → WL p l e s m below meth c b A G cy ad ce sl Z 1731 [(3, vI i), (0, vR (94, 0, 0)), (1, vR (11, 0, 0)), (2, vR (12, 0, 0))] [] M') : WL p l e s m below meth c b A G cy ad ce sl Z 1259 [(3, vI i), (0, vR (94, 0, 0)), (1, vR (11, 0, 0)), (2, vR (12, 0, 0))] [] M := by
  refine wl_aload_n X dL_law_1259 rfl 2 rfl ?_
  refine wl_arg X 1 hi (by decide) (v := 1) (by decide) (ki := 1) (by decide) 1 0 rfl rfl dL_law_1260 dL_law_1261 dL_law_1262 dL_law_1263 dL_law_1264 ?_
  refine wl_arg X 2 hi (by decide) (v := 2) (by decide) (ki := 2) (by decide) 1 0 rfl rfl dL_law_1265 dL_law_1266 dL_law_1267 dL_law_1268 dL_law_1269 ?_
  refine wl_arg X 3 hi (by decide) (v := 3) (by decide) (ki := 3) (by decide) 1 0 rfl rfl dL_law_1270 dL_law_1271 dL_law_1272 dL_law_1273 dL_law_1274 ?_
  refine wl_callC X (as := [vI (xs (i.toInt.toNat + 1)), vI (xs (i.toInt.toNat + 2)), vI (xs (i.toInt.toNat + 3))]) (rest := []) (c_X11_lesson l G cy ad 0 (xs (i.toInt.toNat + 1)) (xs (i.toInt.toNat + 2)) (xs (i.toInt.toNat + 3)) M hI) kV_X11_lesson (by decide +kernel) (Nat.le_of_ble_eq_true rfl) m_1110 rfl rfl rfl (by decide) (Nat.le_of_ble_eq_true rfl) (Nat.le_of_ble_eq_true rfl) dL_law_1275 (fun r1_ M2_ q3_ => ?_)
  obtain ⟨hI1_, hF1_, -, hs1_⟩ := q3_
  have e1_ : mgC M2_ M = M2_ := mgC_self hF1_ SC_X11_lesson
  rw [e1_]
  have hD1_ : InvD M2_ := e1_ ▸ mgC_D (M' := M2_) hD
  refine wl_pop X dL_law_1278 ?_
  refine wl_aload_n X dL_law_1279 rfl 3 rfl ?_
  refine wl_arg X 1 hi (by decide) (v := 1) (by decide) (ki := 1) (by decide) 1 0 rfl rfl dL_law_1280 dL_law_1281 dL_law_1282 dL_law_1283 dL_law_1284 ?_
  refine wl_arg X 2 hi (by decide) (v := 2) (by decide) (ki := 2) (by decide) 1 0 rfl rfl dL_law_1285 dL_law_1286 dL_law_1287 dL_law_1288 dL_law_1289 ?_
  refine wl_arg X 3 hi (by decide) (v := 3) (by decide) (ki := 3) (by decide) 1 0 rfl rfl dL_law_1290 dL_law_1291 dL_law_1292 dL_law_1293 dL_law_1294 ?_
  refine wl_callD X (as := [vI (xs (i.toInt.toNat + 1)), vI (xs (i.toInt.toNat + 2)), vI (xs (i.toInt.toNat + 3))]) (rest := []) (c_X12_lesson l G cy ad 0 (xs (i.toInt.toNat + 1)) (xs (i.toInt.toNat + 2)) (xs (i.toInt.toNat + 3)) M2_ hD1_) kV_X12_lesson (by decide +kernel) (Nat.le_of_ble_eq_true rfl) m_1779 rfl rfl rfl (by decide) (Nat.le_of_ble_eq_true rfl) (Nat.le_of_ble_eq_true rfl) dL_law_1295 (fun r4_ M5_ q6_ => ?_)
  obtain ⟨hI2_, hF2_, -, hs2_⟩ := q6_
  have e2_ : (mgD M5_ M2_).1 = M5_.1 := mgD_self hF2_ SD_X12_lesson
  have hI9_ : Inv (mgD M5_ M2_) := mgD_I hI1_
  have hD9_ : InvD (mgD M5_ M2_) := mgD_D hI2_
  have st_ := sy_27 hR hD hD1_ hI2_ hF1_ hs1_ hF2_ hs2_
  refine wl_pop X dL_law_1298 ?_
  refine wl_goto X (tgt := 1731) dL_law_1299 (by decide) ?_
  exact hend _ hI9_ hD9_ (by rw [e2_]; exact st_.1)
set_option maxHeartbeats 4000000 in
set_option maxRecDepth 100000 in
theorem law_case_28 {p : Program} {l : Launch} {e : Env} {s : State} {m : MethodId} {below : List Frame} {meth : Method} {c : Code} {b L : Nat} {xs : Nat → Int32} {A : Nat → Prop} {G : va_G} {cy : Nat → ClassId} {ad : rf → Nat} {ce sl : Nat} {Z : State → Prop} (X : LX p s m c b L xs A G cy ad ce sl) {i : Int32} {M : mM} (hI : Inv M) (hD : InvD M) (hR : RY M.1) (hi : 0 ≤ i.toInt ∧ i.toInt + 6 ≤ (L : Int)) (hend : ∀ M' : mM, Inv M' → InvD M' → RY M'.1 → WL p l e s m below meth c b A G cy ad ce sl Z 1731 [(3, vI i), (0, vR (94, 0, 0)), (1, vR (11, 0, 0)), (2, vR (12, 0, 0))] [] M') : WL p l e s m below meth c b A G cy ad ce sl Z 1302 [(3, vI i), (0, vR (94, 0, 0)), (1, vR (11, 0, 0)), (2, vR (12, 0, 0))] [] M := by
  refine wl_aload_n X dL_law_1302 rfl 2 rfl ?_
  refine wl_arg X 1 hi (by decide) (v := 1) (by decide) (ki := 1) (by decide) 1 0 rfl rfl dL_law_1303 dL_law_1304 dL_law_1305 dL_law_1306 dL_law_1307 ?_
  refine wl_arg X 2 hi (by decide) (v := 2) (by decide) (ki := 2) (by decide) 1 0 rfl rfl dL_law_1308 dL_law_1309 dL_law_1310 dL_law_1311 dL_law_1312 ?_
  refine wl_arg X 3 hi (by decide) (v := 3) (by decide) (ki := 3) (by decide) 1 0 rfl rfl dL_law_1313 dL_law_1314 dL_law_1315 dL_law_1316 dL_law_1317 ?_
  refine wl_callC X (as := [vI (xs (i.toInt.toNat + 1)), vI (xs (i.toInt.toNat + 2)), vI (xs (i.toInt.toNat + 3))]) (rest := []) (c_X11_learn l G cy ad 0 (xs (i.toInt.toNat + 1)) (xs (i.toInt.toNat + 2)) (xs (i.toInt.toNat + 3)) M hI) kV_X11_learn (by decide +kernel) (Nat.le_of_ble_eq_true rfl) m_1125 rfl rfl rfl (by decide) (Nat.le_of_ble_eq_true rfl) (Nat.le_of_ble_eq_true rfl) dL_law_1318 (fun r1_ M2_ q3_ => ?_)
  obtain ⟨hI1_, hF1_, -, hs1_⟩ := q3_
  have e1_ : mgC M2_ M = M2_ := mgC_self hF1_ SC_X11_learn
  rw [e1_]
  have hD1_ : InvD M2_ := e1_ ▸ mgC_D (M' := M2_) hD
  refine wl_pop X dL_law_1321 ?_
  refine wl_aload_n X dL_law_1322 rfl 3 rfl ?_
  refine wl_arg X 1 hi (by decide) (v := 1) (by decide) (ki := 1) (by decide) 1 0 rfl rfl dL_law_1323 dL_law_1324 dL_law_1325 dL_law_1326 dL_law_1327 ?_
  refine wl_arg X 2 hi (by decide) (v := 2) (by decide) (ki := 2) (by decide) 1 0 rfl rfl dL_law_1328 dL_law_1329 dL_law_1330 dL_law_1331 dL_law_1332 ?_
  refine wl_arg X 3 hi (by decide) (v := 3) (by decide) (ki := 3) (by decide) 1 0 rfl rfl dL_law_1333 dL_law_1334 dL_law_1335 dL_law_1336 dL_law_1337 ?_
  refine wl_callD X (as := [vI (xs (i.toInt.toNat + 1)), vI (xs (i.toInt.toNat + 2)), vI (xs (i.toInt.toNat + 3))]) (rest := []) (c_X12_learn l G cy ad 0 (xs (i.toInt.toNat + 1)) (xs (i.toInt.toNat + 2)) (xs (i.toInt.toNat + 3)) M2_ hD1_) kV_X12_learn (by decide +kernel) (Nat.le_of_ble_eq_true rfl) m_1783 rfl rfl rfl (by decide) (Nat.le_of_ble_eq_true rfl) (Nat.le_of_ble_eq_true rfl) dL_law_1338 (fun r4_ M5_ q6_ => ?_)
  obtain ⟨hI2_, hF2_, -, hs2_⟩ := q6_
  have e2_ : (mgD M5_ M2_).1 = M5_.1 := mgD_self hF2_ SD_X12_learn
  have hI9_ : Inv (mgD M5_ M2_) := mgD_I hI1_
  have hD9_ : InvD (mgD M5_ M2_) := mgD_D hI2_
  have st_ := sy_28 hR hD hD1_ hI2_ hF1_ hs1_ hF2_ hs2_
  refine wl_pop X dL_law_1341 ?_
  refine wl_goto X (tgt := 1731) dL_law_1342 (by decide) ?_
  exact hend _ hI9_ hD9_ (by rw [e2_]; exact st_.1)
set_option maxHeartbeats 4000000 in
set_option maxRecDepth 100000 in
theorem law_case_29 {p : Program} {l : Launch} {e : Env} {s : State} {m : MethodId} {below : List Frame} {meth : Method} {c : Code} {b L : Nat} {xs : Nat → Int32} {A : Nat → Prop} {G : va_G} {cy : Nat → ClassId} {ad : rf → Nat} {ce sl : Nat} {Z : State → Prop} (X : LX p s m c b L xs A G cy ad ce sl) {i : Int32} {M : mM} (hI : Inv M) (hD : InvD M) (hR : RY M.1) (hi : 0 ≤ i.toInt ∧ i.toInt + 6 ≤ (L : Int)) (hend : ∀ M' : mM, Inv M' → InvD M' → RY M'.1 → WL p l e s m below meth c b A G cy ad ce sl Z 1731 [(3, vI i), (0, vR (94, 0, 0)), (1, vR (11, 0, 0)), (2, vR (12, 0, 0))] [] M') : WL p l e s m below meth c b A G cy ad ce sl Z 1345 [(3, vI i), (0, vR (94, 0, 0)), (1, vR (11, 0, 0)), (2, vR (12, 0, 0))] [] M := by
  refine wl_aload_n X dL_law_1345 rfl 2 rfl ?_
  refine wl_arg X 1 hi (by decide) (v := 1) (by decide) (ki := 1) (by decide) 1 0 rfl rfl dL_law_1346 dL_law_1347 dL_law_1348 dL_law_1349 dL_law_1350 ?_
  refine wl_arg X 2 hi (by decide) (v := 2) (by decide) (ki := 2) (by decide) 1 0 rfl rfl dL_law_1351 dL_law_1352 dL_law_1353 dL_law_1354 dL_law_1355 ?_
  refine wl_arg X 3 hi (by decide) (v := 3) (by decide) (ki := 3) (by decide) 1 0 rfl rfl dL_law_1356 dL_law_1357 dL_law_1358 dL_law_1359 dL_law_1360 ?_
  refine wl_arg X 4 hi (by decide) (v := 4) (by decide) (ki := 4) (by decide) 1 0 rfl rfl dL_law_1361 dL_law_1362 dL_law_1363 dL_law_1364 dL_law_1365 ?_
  refine wl_callC X (as := [vI (xs (i.toInt.toNat + 1)), vI (xs (i.toInt.toNat + 2)), vI (xs (i.toInt.toNat + 3)), vI (xs (i.toInt.toNat + 4))]) (rest := []) (c_X11_posts l G cy ad 0 (xs (i.toInt.toNat + 1)) (xs (i.toInt.toNat + 2)) (xs (i.toInt.toNat + 3)) (xs (i.toInt.toNat + 4)) M hI) kV_X11_posts (by decide +kernel) (Nat.le_of_ble_eq_true rfl) m_1155 rfl rfl rfl (by decide) (Nat.le_of_ble_eq_true rfl) (Nat.le_of_ble_eq_true rfl) dL_law_1366 (fun r1_ M2_ q3_ => ?_)
  obtain ⟨hI1_, hF1_, -, hs1_⟩ := q3_
  have e1_ : mgC M2_ M = M2_ := mgC_self hF1_ SC_X11_posts
  rw [e1_]
  have hD1_ : InvD M2_ := e1_ ▸ mgC_D (M' := M2_) hD
  refine wl_pop X dL_law_1369 ?_
  refine wl_aload_n X dL_law_1370 rfl 3 rfl ?_
  refine wl_arg X 1 hi (by decide) (v := 1) (by decide) (ki := 1) (by decide) 1 0 rfl rfl dL_law_1371 dL_law_1372 dL_law_1373 dL_law_1374 dL_law_1375 ?_
  refine wl_arg X 2 hi (by decide) (v := 2) (by decide) (ki := 2) (by decide) 1 0 rfl rfl dL_law_1376 dL_law_1377 dL_law_1378 dL_law_1379 dL_law_1380 ?_
  refine wl_arg X 3 hi (by decide) (v := 3) (by decide) (ki := 3) (by decide) 1 0 rfl rfl dL_law_1381 dL_law_1382 dL_law_1383 dL_law_1384 dL_law_1385 ?_
  refine wl_arg X 4 hi (by decide) (v := 4) (by decide) (ki := 4) (by decide) 1 0 rfl rfl dL_law_1386 dL_law_1387 dL_law_1388 dL_law_1389 dL_law_1390 ?_
  refine wl_callD X (as := [vI (xs (i.toInt.toNat + 1)), vI (xs (i.toInt.toNat + 2)), vI (xs (i.toInt.toNat + 3)), vI (xs (i.toInt.toNat + 4))]) (rest := []) (c_X12_posts l G cy ad 0 (xs (i.toInt.toNat + 1)) (xs (i.toInt.toNat + 2)) (xs (i.toInt.toNat + 3)) (xs (i.toInt.toNat + 4)) M2_ hD1_) kV_X12_posts (by decide +kernel) (Nat.le_of_ble_eq_true rfl) m_1791 rfl rfl rfl (by decide) (Nat.le_of_ble_eq_true rfl) (Nat.le_of_ble_eq_true rfl) dL_law_1391 (fun r4_ M5_ q6_ => ?_)
  obtain ⟨hI2_, hF2_, -, hs2_⟩ := q6_
  have e2_ : (mgD M5_ M2_).1 = M5_.1 := mgD_self hF2_ SD_X12_posts
  have hI9_ : Inv (mgD M5_ M2_) := mgD_I hI1_
  have hD9_ : InvD (mgD M5_ M2_) := mgD_D hI2_
  have st_ := sy_29 hR hD hD1_ hI2_ hF1_ hs1_ hF2_ hs2_
  refine wl_pop X dL_law_1394 ?_
  refine wl_goto X (tgt := 1731) dL_law_1395 (by decide) ?_
  exact hend _ hI9_ hD9_ (by rw [e2_]; exact st_.1)
set_option maxHeartbeats 4000000 in
set_option maxRecDepth 100000 in
theorem law_case_30 {p : Program} {l : Launch} {e : Env} {s : State} {m : MethodId} {below : List Frame} {meth : Method} {c : Code} {b L : Nat} {xs : Nat → Int32} {A : Nat → Prop} {G : va_G} {cy : Nat → ClassId} {ad : rf → Nat} {ce sl : Nat} {Z : State → Prop} (X : LX p s m c b L xs A G cy ad ce sl) {i : Int32} {M : mM} (hI : Inv M) (hD : InvD M) (hR : RY M.1) (hi : 0 ≤ i.toInt ∧ i.toInt + 6 ≤ (L : Int)) (hend : ∀ M' : mM, Inv M' → InvD M' → RY M'.1 → WL p l e s m below meth c b A G cy ad ce sl Z 1731 [(3, vI i), (0, vR (94, 0, 0)), (1, vR (11, 0, 0)), (2, vR (12, 0, 0))] [] M') : WL p l e s m below meth c b A G cy ad ce sl Z 1398 [(3, vI i), (0, vR (94, 0, 0)), (1, vR (11, 0, 0)), (2, vR (12, 0, 0))] [] M := by
  refine wl_aload_n X dL_law_1398 rfl 2 rfl ?_
  refine wl_arg X 1 hi (by decide) (v := 1) (by decide) (ki := 1) (by decide) 1 0 rfl rfl dL_law_1399 dL_law_1400 dL_law_1401 dL_law_1402 dL_law_1403 ?_
  refine wl_arg X 2 hi (by decide) (v := 2) (by decide) (ki := 2) (by decide) 1 0 rfl rfl dL_law_1404 dL_law_1405 dL_law_1406 dL_law_1407 dL_law_1408 ?_
  refine wl_arg X 3 hi (by decide) (v := 3) (by decide) (ki := 3) (by decide) 1 0 rfl rfl dL_law_1409 dL_law_1410 dL_law_1411 dL_law_1412 dL_law_1413 ?_
  refine wl_callC X (as := [vI (xs (i.toInt.toNat + 1)), vI (xs (i.toInt.toNat + 2)), vI (xs (i.toInt.toNat + 3))]) (rest := []) (c_X11_voice l G cy ad 0 (xs (i.toInt.toNat + 1)) (xs (i.toInt.toNat + 2)) (xs (i.toInt.toNat + 3)) M hI) kV_X11_voice (by decide +kernel) (Nat.le_of_ble_eq_true rfl) m_1176 rfl rfl rfl (by decide) (Nat.le_of_ble_eq_true rfl) (Nat.le_of_ble_eq_true rfl) dL_law_1414 (fun r1_ M2_ q3_ => ?_)
  obtain ⟨hI1_, hF1_, -, hs1_⟩ := q3_
  have e1_ : mgC M2_ M = M2_ := mgC_self hF1_ SC_X11_voice
  rw [e1_]
  have hD1_ : InvD M2_ := e1_ ▸ mgC_D (M' := M2_) hD
  refine wl_pop X dL_law_1417 ?_
  refine wl_aload_n X dL_law_1418 rfl 3 rfl ?_
  refine wl_arg X 1 hi (by decide) (v := 1) (by decide) (ki := 1) (by decide) 1 0 rfl rfl dL_law_1419 dL_law_1420 dL_law_1421 dL_law_1422 dL_law_1423 ?_
  refine wl_arg X 2 hi (by decide) (v := 2) (by decide) (ki := 2) (by decide) 1 0 rfl rfl dL_law_1424 dL_law_1425 dL_law_1426 dL_law_1427 dL_law_1428 ?_
  refine wl_arg X 3 hi (by decide) (v := 3) (by decide) (ki := 3) (by decide) 1 0 rfl rfl dL_law_1429 dL_law_1430 dL_law_1431 dL_law_1432 dL_law_1433 ?_
  refine wl_callD X (as := [vI (xs (i.toInt.toNat + 1)), vI (xs (i.toInt.toNat + 2)), vI (xs (i.toInt.toNat + 3))]) (rest := []) (c_X12_voice l G cy ad 0 (xs (i.toInt.toNat + 1)) (xs (i.toInt.toNat + 2)) (xs (i.toInt.toNat + 3)) M2_ hD1_) kV_X12_voice (by decide +kernel) (Nat.le_of_ble_eq_true rfl) m_1799 rfl rfl rfl (by decide) (Nat.le_of_ble_eq_true rfl) (Nat.le_of_ble_eq_true rfl) dL_law_1434 (fun r4_ M5_ q6_ => ?_)
  obtain ⟨hI2_, hF2_, -, hs2_⟩ := q6_
  have e2_ : (mgD M5_ M2_).1 = M5_.1 := mgD_self hF2_ SD_X12_voice
  have hI9_ : Inv (mgD M5_ M2_) := mgD_I hI1_
  have hD9_ : InvD (mgD M5_ M2_) := mgD_D hI2_
  have st_ := sy_30 hR hD hD1_ hI2_ hF1_ hs1_ hF2_ hs2_
  refine wl_pop X dL_law_1437 ?_
  refine wl_goto X (tgt := 1731) dL_law_1438 (by decide) ?_
  exact hend _ hI9_ hD9_ (by rw [e2_]; exact st_.1)
set_option maxHeartbeats 4000000 in
set_option maxRecDepth 100000 in
theorem law_case_31 {p : Program} {l : Launch} {e : Env} {s : State} {m : MethodId} {below : List Frame} {meth : Method} {c : Code} {b L : Nat} {xs : Nat → Int32} {A : Nat → Prop} {G : va_G} {cy : Nat → ClassId} {ad : rf → Nat} {ce sl : Nat} {Z : State → Prop} (X : LX p s m c b L xs A G cy ad ce sl) {i : Int32} {M : mM} (hI : Inv M) (hD : InvD M) (hR : RY M.1) (hi : 0 ≤ i.toInt ∧ i.toInt + 6 ≤ (L : Int)) (hend : ∀ M' : mM, Inv M' → InvD M' → RY M'.1 → WL p l e s m below meth c b A G cy ad ce sl Z 1731 [(3, vI i), (0, vR (94, 0, 0)), (1, vR (11, 0, 0)), (2, vR (12, 0, 0))] [] M') : WL p l e s m below meth c b A G cy ad ce sl Z 1441 [(3, vI i), (0, vR (94, 0, 0)), (1, vR (11, 0, 0)), (2, vR (12, 0, 0))] [] M := by
  refine wl_aload_n X dL_law_1441 rfl 2 rfl ?_
  refine wl_arg X 1 hi (by decide) (v := 1) (by decide) (ki := 1) (by decide) 1 0 rfl rfl dL_law_1442 dL_law_1443 dL_law_1444 dL_law_1445 dL_law_1446 ?_
  refine wl_callC X (as := [vI (xs (i.toInt.toNat + 1))]) (rest := []) (c_X11_trace l G cy ad 0 (xs (i.toInt.toNat + 1)) M hI) kV_X11_trace (by decide +kernel) (Nat.le_of_ble_eq_true rfl) m_1210 rfl rfl rfl (by decide) (Nat.le_of_ble_eq_true rfl) (Nat.le_of_ble_eq_true rfl) dL_law_1447 (fun r1_ M2_ q3_ => ?_)
  obtain ⟨hI1_, hF1_, -, hs1_⟩ := q3_
  have e1_ : mgC M2_ M = M2_ := mgC_self hF1_ SC_X11_trace
  rw [e1_]
  have hD1_ : InvD M2_ := e1_ ▸ mgC_D (M' := M2_) hD
  refine wl_pop X dL_law_1450 ?_
  refine wl_aload_n X dL_law_1451 rfl 3 rfl ?_
  refine wl_arg X 1 hi (by decide) (v := 1) (by decide) (ki := 1) (by decide) 1 0 rfl rfl dL_law_1452 dL_law_1453 dL_law_1454 dL_law_1455 dL_law_1456 ?_
  refine wl_callD X (as := [vI (xs (i.toInt.toNat + 1))]) (rest := []) (c_X12_trace l G cy ad 0 (xs (i.toInt.toNat + 1)) M2_ hD1_) kV_X12_trace (by decide +kernel) (Nat.le_of_ble_eq_true rfl) m_1823 rfl rfl rfl (by decide) (Nat.le_of_ble_eq_true rfl) (Nat.le_of_ble_eq_true rfl) dL_law_1457 (fun r4_ M5_ q6_ => ?_)
  obtain ⟨hI2_, hF2_, -, hs2_⟩ := q6_
  have e2_ : (mgD M5_ M2_).1 = M5_.1 := mgD_self hF2_ SD_X12_trace
  have hI9_ : Inv (mgD M5_ M2_) := mgD_I hI1_
  have hD9_ : InvD (mgD M5_ M2_) := mgD_D hI2_
  have st_ := sy_31 hR hD hD1_ hI2_ hF1_ hs1_ hF2_ hs2_
  refine wl_pop X dL_law_1460 ?_
  refine wl_goto X (tgt := 1731) dL_law_1461 (by decide) ?_
  exact hend _ hI9_ hD9_ (by rw [e2_]; exact st_.1)
set_option maxHeartbeats 4000000 in
set_option maxRecDepth 100000 in
theorem law_case_32 {p : Program} {l : Launch} {e : Env} {s : State} {m : MethodId} {below : List Frame} {meth : Method} {c : Code} {b L : Nat} {xs : Nat → Int32} {A : Nat → Prop} {G : va_G} {cy : Nat → ClassId} {ad : rf → Nat} {ce sl : Nat} {Z : State → Prop} (X : LX p s m c b L xs A G cy ad ce sl) {i : Int32} {M : mM} (hI : Inv M) (hD : InvD M) (hR : RY M.1) (hi : 0 ≤ i.toInt ∧ i.toInt + 6 ≤ (L : Int)) (hend : ∀ M' : mM, Inv M' → InvD M' → RY M'.1 → WL p l e s m below meth c b A G cy ad ce sl Z 1731 [(3, vI i), (0, vR (94, 0, 0)), (1, vR (11, 0, 0)), (2, vR (12, 0, 0))] [] M') : WL p l e s m below meth c b A G cy ad ce sl Z 1464 [(3, vI i), (0, vR (94, 0, 0)), (1, vR (11, 0, 0)), (2, vR (12, 0, 0))] [] M := by
  refine wl_aload_n X dL_law_1464 rfl 2 rfl ?_
  refine wl_arg X 1 hi (by decide) (v := 1) (by decide) (ki := 1) (by decide) 1 0 rfl rfl dL_law_1465 dL_law_1466 dL_law_1467 dL_law_1468 dL_law_1469 ?_
  refine wl_arg X 2 hi (by decide) (v := 2) (by decide) (ki := 2) (by decide) 1 0 rfl rfl dL_law_1470 dL_law_1471 dL_law_1472 dL_law_1473 dL_law_1474 ?_
  refine wl_arg X 3 hi (by decide) (v := 3) (by decide) (ki := 3) (by decide) 1 0 rfl rfl dL_law_1475 dL_law_1476 dL_law_1477 dL_law_1478 dL_law_1479 ?_
  refine wl_callC X (as := [vI (xs (i.toInt.toNat + 1)), vI (xs (i.toInt.toNat + 2)), vI (xs (i.toInt.toNat + 3))]) (rest := []) (c_X11_sheet l G cy ad 0 (xs (i.toInt.toNat + 1)) (xs (i.toInt.toNat + 2)) (xs (i.toInt.toNat + 3)) M hI) kV_X11_sheet (by decide +kernel) (Nat.le_of_ble_eq_true rfl) m_1218 rfl rfl rfl (by decide) (Nat.le_of_ble_eq_true rfl) (Nat.le_of_ble_eq_true rfl) dL_law_1480 (fun r1_ M2_ q3_ => ?_)
  obtain ⟨hI1_, hF1_, -, hs1_⟩ := q3_
  have e1_ : mgC M2_ M = M2_ := mgC_self hF1_ SC_X11_sheet
  rw [e1_]
  have hD1_ : InvD M2_ := e1_ ▸ mgC_D (M' := M2_) hD
  refine wl_pop X dL_law_1483 ?_
  refine wl_aload_n X dL_law_1484 rfl 3 rfl ?_
  refine wl_arg X 1 hi (by decide) (v := 1) (by decide) (ki := 1) (by decide) 1 0 rfl rfl dL_law_1485 dL_law_1486 dL_law_1487 dL_law_1488 dL_law_1489 ?_
  refine wl_arg X 2 hi (by decide) (v := 2) (by decide) (ki := 2) (by decide) 1 0 rfl rfl dL_law_1490 dL_law_1491 dL_law_1492 dL_law_1493 dL_law_1494 ?_
  refine wl_arg X 3 hi (by decide) (v := 3) (by decide) (ki := 3) (by decide) 1 0 rfl rfl dL_law_1495 dL_law_1496 dL_law_1497 dL_law_1498 dL_law_1499 ?_
  refine wl_callD X (as := [vI (xs (i.toInt.toNat + 1)), vI (xs (i.toInt.toNat + 2)), vI (xs (i.toInt.toNat + 3))]) (rest := []) (c_X12_sheet l G cy ad 0 (xs (i.toInt.toNat + 1)) (xs (i.toInt.toNat + 2)) (xs (i.toInt.toNat + 3)) M2_ hD1_) kV_X12_sheet (by decide +kernel) (Nat.le_of_ble_eq_true rfl) m_1827 rfl rfl rfl (by decide) (Nat.le_of_ble_eq_true rfl) (Nat.le_of_ble_eq_true rfl) dL_law_1500 (fun r4_ M5_ q6_ => ?_)
  obtain ⟨hI2_, hF2_, -, hs2_⟩ := q6_
  have e2_ : (mgD M5_ M2_).1 = M5_.1 := mgD_self hF2_ SD_X12_sheet
  have hI9_ : Inv (mgD M5_ M2_) := mgD_I hI1_
  have hD9_ : InvD (mgD M5_ M2_) := mgD_D hI2_
  have st_ := sy_32 hR hD hD1_ hI2_ hF1_ hs1_ hF2_ hs2_
  refine wl_pop X dL_law_1503 ?_
  refine wl_goto X (tgt := 1731) dL_law_1504 (by decide) ?_
  exact hend _ hI9_ hD9_ (by rw [e2_]; exact st_.1)
set_option maxHeartbeats 4000000 in
set_option maxRecDepth 100000 in
theorem law_case_33 {p : Program} {l : Launch} {e : Env} {s : State} {m : MethodId} {below : List Frame} {meth : Method} {c : Code} {b L : Nat} {xs : Nat → Int32} {A : Nat → Prop} {G : va_G} {cy : Nat → ClassId} {ad : rf → Nat} {ce sl : Nat} {Z : State → Prop} (X : LX p s m c b L xs A G cy ad ce sl) {i : Int32} {M : mM} (hI : Inv M) (hD : InvD M) (hR : RY M.1) (hi : 0 ≤ i.toInt ∧ i.toInt + 6 ≤ (L : Int)) (hend : ∀ M' : mM, Inv M' → InvD M' → RY M'.1 → WL p l e s m below meth c b A G cy ad ce sl Z 1731 [(3, vI i), (0, vR (94, 0, 0)), (1, vR (11, 0, 0)), (2, vR (12, 0, 0))] [] M') : WL p l e s m below meth c b A G cy ad ce sl Z 1507 [(3, vI i), (0, vR (94, 0, 0)), (1, vR (11, 0, 0)), (2, vR (12, 0, 0))] [] M := by
  refine wl_aload_n X dL_law_1507 rfl 2 rfl ?_
  refine wl_arg X 1 hi (by decide) (v := 1) (by decide) (ki := 1) (by decide) 1 0 rfl rfl dL_law_1508 dL_law_1509 dL_law_1510 dL_law_1511 dL_law_1512 ?_
  refine wl_arg X 2 hi (by decide) (v := 2) (by decide) (ki := 2) (by decide) 1 0 rfl rfl dL_law_1513 dL_law_1514 dL_law_1515 dL_law_1516 dL_law_1517 ?_
  refine wl_arg X 3 hi (by decide) (v := 3) (by decide) (ki := 3) (by decide) 1 0 rfl rfl dL_law_1518 dL_law_1519 dL_law_1520 dL_law_1521 dL_law_1522 ?_
  refine wl_callC X (as := [vI (xs (i.toInt.toNat + 1)), vI (xs (i.toInt.toNat + 2)), vI (xs (i.toInt.toNat + 3))]) (rest := []) (c_X11_put l G cy ad 0 (xs (i.toInt.toNat + 1)) (xs (i.toInt.toNat + 2)) (xs (i.toInt.toNat + 3)) M hI) kV_X11_put (by decide +kernel) (Nat.le_of_ble_eq_true rfl) m_1232 rfl rfl rfl (by decide) (Nat.le_of_ble_eq_true rfl) (Nat.le_of_ble_eq_true rfl) dL_law_1523 (fun r1_ M2_ q3_ => ?_)
  obtain ⟨hI1_, hF1_, -, hs1_⟩ := q3_
  have e1_ : mgC M2_ M = M2_ := mgC_self hF1_ SC_X11_put
  rw [e1_]
  have hD1_ : InvD M2_ := e1_ ▸ mgC_D (M' := M2_) hD
  refine wl_pop X dL_law_1526 ?_
  refine wl_aload_n X dL_law_1527 rfl 3 rfl ?_
  refine wl_arg X 1 hi (by decide) (v := 1) (by decide) (ki := 1) (by decide) 1 0 rfl rfl dL_law_1528 dL_law_1529 dL_law_1530 dL_law_1531 dL_law_1532 ?_
  refine wl_arg X 2 hi (by decide) (v := 2) (by decide) (ki := 2) (by decide) 1 0 rfl rfl dL_law_1533 dL_law_1534 dL_law_1535 dL_law_1536 dL_law_1537 ?_
  refine wl_arg X 3 hi (by decide) (v := 3) (by decide) (ki := 3) (by decide) 1 0 rfl rfl dL_law_1538 dL_law_1539 dL_law_1540 dL_law_1541 dL_law_1542 ?_
  refine wl_callD X (as := [vI (xs (i.toInt.toNat + 1)), vI (xs (i.toInt.toNat + 2)), vI (xs (i.toInt.toNat + 3))]) (rest := []) (c_X12_put l G cy ad 0 (xs (i.toInt.toNat + 1)) (xs (i.toInt.toNat + 2)) (xs (i.toInt.toNat + 3)) M2_ hD1_) kV_X12_put (by decide +kernel) (Nat.le_of_ble_eq_true rfl) m_1831 rfl rfl rfl (by decide) (Nat.le_of_ble_eq_true rfl) (Nat.le_of_ble_eq_true rfl) dL_law_1543 (fun r4_ M5_ q6_ => ?_)
  obtain ⟨hI2_, hF2_, -, hs2_⟩ := q6_
  have e2_ : (mgD M5_ M2_).1 = M5_.1 := mgD_self hF2_ SD_X12_put
  have hI9_ : Inv (mgD M5_ M2_) := mgD_I hI1_
  have hD9_ : InvD (mgD M5_ M2_) := mgD_D hI2_
  have st_ := sy_33 hR hD hD1_ hI2_ hF1_ hs1_ hF2_ hs2_
  refine wl_pop X dL_law_1546 ?_
  refine wl_goto X (tgt := 1731) dL_law_1547 (by decide) ?_
  exact hend _ hI9_ hD9_ (by rw [e2_]; exact st_.1)
set_option maxHeartbeats 4000000 in
set_option maxRecDepth 100000 in
theorem law_case_34 {p : Program} {l : Launch} {e : Env} {s : State} {m : MethodId} {below : List Frame} {meth : Method} {c : Code} {b L : Nat} {xs : Nat → Int32} {A : Nat → Prop} {G : va_G} {cy : Nat → ClassId} {ad : rf → Nat} {ce sl : Nat} {Z : State → Prop} (X : LX p s m c b L xs A G cy ad ce sl) {i : Int32} {M : mM} (hI : Inv M) (hD : InvD M) (hR : RY M.1) (hi : 0 ≤ i.toInt ∧ i.toInt + 6 ≤ (L : Int)) (hend : ∀ M' : mM, Inv M' → InvD M' → RY M'.1 → WL p l e s m below meth c b A G cy ad ce sl Z 1731 [(3, vI i), (0, vR (94, 0, 0)), (1, vR (11, 0, 0)), (2, vR (12, 0, 0))] [] M') : WL p l e s m below meth c b A G cy ad ce sl Z 1550 [(3, vI i), (0, vR (94, 0, 0)), (1, vR (11, 0, 0)), (2, vR (12, 0, 0))] [] M := by
  refine wl_aload_n X dL_law_1550 rfl 2 rfl ?_
  refine wl_arg X 1 hi (by decide) (v := 1) (by decide) (ki := 1) (by decide) 1 0 rfl rfl dL_law_1551 dL_law_1552 dL_law_1553 dL_law_1554 dL_law_1555 ?_
  refine wl_arg X 2 hi (by decide) (v := 2) (by decide) (ki := 2) (by decide) 1 0 rfl rfl dL_law_1556 dL_law_1557 dL_law_1558 dL_law_1559 dL_law_1560 ?_
  refine wl_arg X 3 hi (by decide) (v := 3) (by decide) (ki := 3) (by decide) 1 0 rfl rfl dL_law_1561 dL_law_1562 dL_law_1563 dL_law_1564 dL_law_1565 ?_
  refine wl_arg X 4 hi (by decide) (v := 4) (by decide) (ki := 4) (by decide) 1 0 rfl rfl dL_law_1566 dL_law_1567 dL_law_1568 dL_law_1569 dL_law_1570 ?_
  refine wl_arg X 5 hi (by decide) (v := 5) (by decide) (ki := 5) (by decide) 1 0 rfl rfl dL_law_1571 dL_law_1572 dL_law_1573 dL_law_1574 dL_law_1575 ?_
  refine wl_callC X (as := [vI (xs (i.toInt.toNat + 1)), vI (xs (i.toInt.toNat + 2)), vI (xs (i.toInt.toNat + 3)), vI (xs (i.toInt.toNat + 4)), vI (xs (i.toInt.toNat + 5))]) (rest := []) (c_X11_move l G cy ad 0 (xs (i.toInt.toNat + 1)) (xs (i.toInt.toNat + 2)) (xs (i.toInt.toNat + 3)) (xs (i.toInt.toNat + 4)) (xs (i.toInt.toNat + 5)) M hI) kV_X11_move (by decide +kernel) (Nat.le_of_ble_eq_true rfl) m_1241 rfl rfl rfl (by decide) (Nat.le_of_ble_eq_true rfl) (Nat.le_of_ble_eq_true rfl) dL_law_1576 (fun r1_ M2_ q3_ => ?_)
  obtain ⟨hI1_, hF1_, -, hs1_⟩ := q3_
  have e1_ : mgC M2_ M = M2_ := mgC_self hF1_ SC_X11_move
  rw [e1_]
  have hD1_ : InvD M2_ := e1_ ▸ mgC_D (M' := M2_) hD
  refine wl_pop X dL_law_1579 ?_
  refine wl_aload_n X dL_law_1580 rfl 3 rfl ?_
  refine wl_arg X 1 hi (by decide) (v := 1) (by decide) (ki := 1) (by decide) 1 0 rfl rfl dL_law_1581 dL_law_1582 dL_law_1583 dL_law_1584 dL_law_1585 ?_
  refine wl_arg X 2 hi (by decide) (v := 2) (by decide) (ki := 2) (by decide) 1 0 rfl rfl dL_law_1586 dL_law_1587 dL_law_1588 dL_law_1589 dL_law_1590 ?_
  refine wl_arg X 3 hi (by decide) (v := 3) (by decide) (ki := 3) (by decide) 1 0 rfl rfl dL_law_1591 dL_law_1592 dL_law_1593 dL_law_1594 dL_law_1595 ?_
  refine wl_arg X 4 hi (by decide) (v := 4) (by decide) (ki := 4) (by decide) 1 0 rfl rfl dL_law_1596 dL_law_1597 dL_law_1598 dL_law_1599 dL_law_1600 ?_
  refine wl_arg X 5 hi (by decide) (v := 5) (by decide) (ki := 5) (by decide) 1 0 rfl rfl dL_law_1601 dL_law_1602 dL_law_1603 dL_law_1604 dL_law_1605 ?_
  refine wl_callD X (as := [vI (xs (i.toInt.toNat + 1)), vI (xs (i.toInt.toNat + 2)), vI (xs (i.toInt.toNat + 3)), vI (xs (i.toInt.toNat + 4)), vI (xs (i.toInt.toNat + 5))]) (rest := []) (c_X12_move l G cy ad 0 (xs (i.toInt.toNat + 1)) (xs (i.toInt.toNat + 2)) (xs (i.toInt.toNat + 3)) (xs (i.toInt.toNat + 4)) (xs (i.toInt.toNat + 5)) M2_ hD1_) kV_X12_move (by decide +kernel) (Nat.le_of_ble_eq_true rfl) m_1835 rfl rfl rfl (by decide) (Nat.le_of_ble_eq_true rfl) (Nat.le_of_ble_eq_true rfl) dL_law_1606 (fun r4_ M5_ q6_ => ?_)
  obtain ⟨hI2_, hF2_, -, hs2_⟩ := q6_
  have e2_ : (mgD M5_ M2_).1 = M5_.1 := mgD_self hF2_ SD_X12_move
  have hI9_ : Inv (mgD M5_ M2_) := mgD_I hI1_
  have hD9_ : InvD (mgD M5_ M2_) := mgD_D hI2_
  have st_ := sy_34 hR hD hD1_ hI2_ hF1_ hs1_ hF2_ hs2_
  refine wl_pop X dL_law_1609 ?_
  refine wl_goto X (tgt := 1731) dL_law_1610 (by decide) ?_
  exact hend _ hI9_ hD9_ (by rw [e2_]; exact st_.1)
set_option maxHeartbeats 4000000 in
set_option maxRecDepth 100000 in
theorem law_case_35 {p : Program} {l : Launch} {e : Env} {s : State} {m : MethodId} {below : List Frame} {meth : Method} {c : Code} {b L : Nat} {xs : Nat → Int32} {A : Nat → Prop} {G : va_G} {cy : Nat → ClassId} {ad : rf → Nat} {ce sl : Nat} {Z : State → Prop} (X : LX p s m c b L xs A G cy ad ce sl) {i : Int32} {M : mM} (hI : Inv M) (hD : InvD M) (hR : RY M.1) (hi : 0 ≤ i.toInt ∧ i.toInt + 6 ≤ (L : Int)) (hend : ∀ M' : mM, Inv M' → InvD M' → RY M'.1 → WL p l e s m below meth c b A G cy ad ce sl Z 1731 [(3, vI i), (0, vR (94, 0, 0)), (1, vR (11, 0, 0)), (2, vR (12, 0, 0))] [] M') : WL p l e s m below meth c b A G cy ad ce sl Z 1613 [(3, vI i), (0, vR (94, 0, 0)), (1, vR (11, 0, 0)), (2, vR (12, 0, 0))] [] M := by
  refine wl_aload_n X dL_law_1613 rfl 2 rfl ?_
  refine wl_callC X (as := []) (rest := []) (c_X11_image l G cy ad 0 M hI) kV_X11_image (by decide +kernel) (Nat.le_of_ble_eq_true rfl) m_1250 rfl rfl rfl (by decide) (Nat.le_of_ble_eq_true rfl) (Nat.le_of_ble_eq_true rfl) dL_law_1614 (fun r1_ M2_ q3_ => ?_)
  obtain ⟨hI1_, hF1_, -, hs1_⟩ := q3_
  have e1_ : mgC M2_ M = M2_ := mgC_self hF1_ SC_X11_image
  rw [e1_]
  have hD1_ : InvD M2_ := e1_ ▸ mgC_D (M' := M2_) hD
  refine wl_pop X dL_law_1617 ?_
  refine wl_aload_n X dL_law_1618 rfl 3 rfl ?_
  refine wl_callD X (as := []) (rest := []) (c_X12_image l G cy ad 0 M2_ hD1_) kV_X12_image (by decide +kernel) (Nat.le_of_ble_eq_true rfl) m_1839 rfl rfl rfl (by decide) (Nat.le_of_ble_eq_true rfl) (Nat.le_of_ble_eq_true rfl) dL_law_1619 (fun r4_ M5_ q6_ => ?_)
  obtain ⟨hI2_, hF2_, -, hs2_⟩ := q6_
  have e2_ : (mgD M5_ M2_).1 = M5_.1 := mgD_self hF2_ SD_X12_image
  have hI9_ : Inv (mgD M5_ M2_) := mgD_I hI1_
  have hD9_ : InvD (mgD M5_ M2_) := mgD_D hI2_
  have st_ := sy_35 hR hD hD1_ hI2_ hF1_ hs1_ hF2_ hs2_
  refine wl_pop X dL_law_1622 ?_
  refine wl_goto X (tgt := 1731) dL_law_1623 (by decide) ?_
  exact hend _ hI9_ hD9_ (by rw [e2_]; exact st_.1)
set_option maxHeartbeats 4000000 in
set_option maxRecDepth 100000 in
theorem law_case_36 {p : Program} {l : Launch} {e : Env} {s : State} {m : MethodId} {below : List Frame} {meth : Method} {c : Code} {b L : Nat} {xs : Nat → Int32} {A : Nat → Prop} {G : va_G} {cy : Nat → ClassId} {ad : rf → Nat} {ce sl : Nat} {Z : State → Prop} (X : LX p s m c b L xs A G cy ad ce sl) {i : Int32} {M : mM} (hI : Inv M) (hD : InvD M) (hR : RY M.1) (hi : 0 ≤ i.toInt ∧ i.toInt + 6 ≤ (L : Int)) (hend : ∀ M' : mM, Inv M' → InvD M' → RY M'.1 → WL p l e s m below meth c b A G cy ad ce sl Z 1731 [(3, vI i), (0, vR (94, 0, 0)), (1, vR (11, 0, 0)), (2, vR (12, 0, 0))] [] M') : WL p l e s m below meth c b A G cy ad ce sl Z 1626 [(3, vI i), (0, vR (94, 0, 0)), (1, vR (11, 0, 0)), (2, vR (12, 0, 0))] [] M := by
  refine wl_aload_n X dL_law_1626 rfl 2 rfl ?_
  refine wl_callC X (as := []) (rest := []) (c_X11_restore l G cy ad 0 M hI) kV_X11_restore (by decide +kernel) (Nat.le_of_ble_eq_true rfl) m_1280 rfl rfl rfl (by decide) (Nat.le_of_ble_eq_true rfl) (Nat.le_of_ble_eq_true rfl) dL_law_1627 (fun r1_ M2_ q3_ => ?_)
  obtain ⟨hI1_, hF1_, -, hs1_⟩ := q3_
  have e1_ : mgC M2_ M = M2_ := mgC_self hF1_ SC_X11_restore
  rw [e1_]
  have hD1_ : InvD M2_ := e1_ ▸ mgC_D (M' := M2_) hD
  refine wl_pop X dL_law_1630 ?_
  refine wl_aload_n X dL_law_1631 rfl 3 rfl ?_
  refine wl_callD X (as := []) (rest := []) (c_X12_restore l G cy ad 0 M2_ hD1_) kV_X12_restore (by decide +kernel) (Nat.le_of_ble_eq_true rfl) m_1846 rfl rfl rfl (by decide) (Nat.le_of_ble_eq_true rfl) (Nat.le_of_ble_eq_true rfl) dL_law_1632 (fun r4_ M5_ q6_ => ?_)
  obtain ⟨hI2_, hF2_, -, hs2_⟩ := q6_
  have e2_ : (mgD M5_ M2_).1 = M5_.1 := mgD_self hF2_ SD_X12_restore
  have hI9_ : Inv (mgD M5_ M2_) := mgD_I hI1_
  have hD9_ : InvD (mgD M5_ M2_) := mgD_D hI2_
  have st_ := sy_36 hR hD hD1_ hI2_ hF1_ hs1_ hF2_ hs2_
  refine wl_pop X dL_law_1635 ?_
  refine wl_goto X (tgt := 1731) dL_law_1636 (by decide) ?_
  exact hend _ hI9_ hD9_ (by rw [e2_]; exact st_.1)
set_option maxHeartbeats 4000000 in
set_option maxRecDepth 100000 in
theorem law_case_37 {p : Program} {l : Launch} {e : Env} {s : State} {m : MethodId} {below : List Frame} {meth : Method} {c : Code} {b L : Nat} {xs : Nat → Int32} {A : Nat → Prop} {G : va_G} {cy : Nat → ClassId} {ad : rf → Nat} {ce sl : Nat} {Z : State → Prop} (X : LX p s m c b L xs A G cy ad ce sl) {i : Int32} {M : mM} (hI : Inv M) (hD : InvD M) (hR : RY M.1) (hi : 0 ≤ i.toInt ∧ i.toInt + 6 ≤ (L : Int)) (hend : ∀ M' : mM, Inv M' → InvD M' → RY M'.1 → WL p l e s m below meth c b A G cy ad ce sl Z 1731 [(3, vI i), (0, vR (94, 0, 0)), (1, vR (11, 0, 0)), (2, vR (12, 0, 0))] [] M') : WL p l e s m below meth c b A G cy ad ce sl Z 1639 [(3, vI i), (0, vR (94, 0, 0)), (1, vR (11, 0, 0)), (2, vR (12, 0, 0))] [] M := by
  refine wl_aload_n X dL_law_1639 rfl 2 rfl ?_
  refine wl_arg X 1 hi (by decide) (v := 1) (by decide) (ki := 1) (by decide) 1 0 rfl rfl dL_law_1640 dL_law_1641 dL_law_1642 dL_law_1643 dL_law_1644 ?_
  refine wl_callC X (as := [vI (xs (i.toInt.toNat + 1))]) (rest := []) (c_X11_tell l G cy ad 0 (xs (i.toInt.toNat + 1)) M hI) kV_X11_tell (by decide +kernel) (Nat.le_of_ble_eq_true rfl) m_1284 rfl rfl rfl (by decide) (Nat.le_of_ble_eq_true rfl) (Nat.le_of_ble_eq_true rfl) dL_law_1645 (fun r1_ M2_ q3_ => ?_)
  obtain ⟨hI1_, hF1_, -, hs1_⟩ := q3_
  have e1_ : mgC M2_ M = M2_ := mgC_self hF1_ SC_X11_tell
  rw [e1_]
  have hD1_ : InvD M2_ := e1_ ▸ mgC_D (M' := M2_) hD
  refine wl_pop X dL_law_1648 ?_
  refine wl_aload_n X dL_law_1649 rfl 3 rfl ?_
  refine wl_arg X 1 hi (by decide) (v := 1) (by decide) (ki := 1) (by decide) 1 0 rfl rfl dL_law_1650 dL_law_1651 dL_law_1652 dL_law_1653 dL_law_1654 ?_
  refine wl_callD X (as := [vI (xs (i.toInt.toNat + 1))]) (rest := []) (c_X12_tell l G cy ad 0 (xs (i.toInt.toNat + 1)) M2_ hD1_) kV_X12_tell (by decide +kernel) (Nat.le_of_ble_eq_true rfl) m_1850 rfl rfl rfl (by decide) (Nat.le_of_ble_eq_true rfl) (Nat.le_of_ble_eq_true rfl) dL_law_1655 (fun r4_ M5_ q6_ => ?_)
  obtain ⟨hI2_, hF2_, -, hs2_⟩ := q6_
  have e2_ : (mgD M5_ M2_).1 = M5_.1 := mgD_self hF2_ SD_X12_tell
  have hI9_ : Inv (mgD M5_ M2_) := mgD_I hI1_
  have hD9_ : InvD (mgD M5_ M2_) := mgD_D hI2_
  have st_ := sy_37 hR hD hD1_ hI2_ hF1_ hs1_ hF2_ hs2_
  refine wl_pop X dL_law_1658 ?_
  refine wl_goto X (tgt := 1731) dL_law_1659 (by decide) ?_
  exact hend _ hI9_ hD9_ (by rw [e2_]; exact st_.1)
set_option maxHeartbeats 4000000 in
set_option maxRecDepth 100000 in
theorem law_case_38 {p : Program} {l : Launch} {e : Env} {s : State} {m : MethodId} {below : List Frame} {meth : Method} {c : Code} {b L : Nat} {xs : Nat → Int32} {A : Nat → Prop} {G : va_G} {cy : Nat → ClassId} {ad : rf → Nat} {ce sl : Nat} {Z : State → Prop} (X : LX p s m c b L xs A G cy ad ce sl) {i : Int32} {M : mM} (hI : Inv M) (hD : InvD M) (hR : RY M.1) (hi : 0 ≤ i.toInt ∧ i.toInt + 6 ≤ (L : Int)) (hend : ∀ M' : mM, Inv M' → InvD M' → RY M'.1 → WL p l e s m below meth c b A G cy ad ce sl Z 1731 [(3, vI i), (0, vR (94, 0, 0)), (1, vR (11, 0, 0)), (2, vR (12, 0, 0))] [] M') : WL p l e s m below meth c b A G cy ad ce sl Z 1662 [(3, vI i), (0, vR (94, 0, 0)), (1, vR (11, 0, 0)), (2, vR (12, 0, 0))] [] M := by
  refine wl_aload_n X dL_law_1662 rfl 2 rfl ?_
  refine wl_arg X 1 hi (by decide) (v := 1) (by decide) (ki := 1) (by decide) 1 0 rfl rfl dL_law_1663 dL_law_1664 dL_law_1665 dL_law_1666 dL_law_1667 ?_
  refine wl_callC X (as := [vI (xs (i.toInt.toNat + 1))]) (rest := []) (c_X11_check l G cy ad 0 (xs (i.toInt.toNat + 1)) M hI) kV_X11_check (by decide +kernel) (Nat.le_of_ble_eq_true rfl) m_1288 rfl rfl rfl (by decide) (Nat.le_of_ble_eq_true rfl) (Nat.le_of_ble_eq_true rfl) dL_law_1668 (fun r1_ M2_ q3_ => ?_)
  obtain ⟨hI1_, hF1_, -, hs1_⟩ := q3_
  have e1_ : mgC M2_ M = M2_ := mgC_self hF1_ SC_X11_check
  rw [e1_]
  have hD1_ : InvD M2_ := e1_ ▸ mgC_D (M' := M2_) hD
  refine wl_pop X dL_law_1671 ?_
  refine wl_aload_n X dL_law_1672 rfl 3 rfl ?_
  refine wl_arg X 1 hi (by decide) (v := 1) (by decide) (ki := 1) (by decide) 1 0 rfl rfl dL_law_1673 dL_law_1674 dL_law_1675 dL_law_1676 dL_law_1677 ?_
  refine wl_callD X (as := [vI (xs (i.toInt.toNat + 1))]) (rest := []) (c_X12_check l G cy ad 0 (xs (i.toInt.toNat + 1)) M2_ hD1_) kV_X12_check (by decide +kernel) (Nat.le_of_ble_eq_true rfl) m_1854 rfl rfl rfl (by decide) (Nat.le_of_ble_eq_true rfl) (Nat.le_of_ble_eq_true rfl) dL_law_1678 (fun r4_ M5_ q6_ => ?_)
  obtain ⟨hI2_, hF2_, -, hs2_⟩ := q6_
  have e2_ : (mgD M5_ M2_).1 = M5_.1 := mgD_self hF2_ SD_X12_check
  have hI9_ : Inv (mgD M5_ M2_) := mgD_I hI1_
  have hD9_ : InvD (mgD M5_ M2_) := mgD_D hI2_
  have st_ := sy_38 hR hD hD1_ hI2_ hF1_ hs1_ hF2_ hs2_
  refine wl_pop X dL_law_1681 ?_
  refine wl_goto X (tgt := 1731) dL_law_1682 (by decide) ?_
  exact hend _ hI9_ hD9_ (by rw [e2_]; exact st_.1)
set_option maxHeartbeats 4000000 in
set_option maxRecDepth 100000 in
theorem law_case_39 {p : Program} {l : Launch} {e : Env} {s : State} {m : MethodId} {below : List Frame} {meth : Method} {c : Code} {b L : Nat} {xs : Nat → Int32} {A : Nat → Prop} {G : va_G} {cy : Nat → ClassId} {ad : rf → Nat} {ce sl : Nat} {Z : State → Prop} (X : LX p s m c b L xs A G cy ad ce sl) {i : Int32} {M : mM} (hI : Inv M) (hD : InvD M) (hR : RY M.1) (hi : 0 ≤ i.toInt ∧ i.toInt + 6 ≤ (L : Int)) (hend : ∀ M' : mM, Inv M' → InvD M' → RY M'.1 → WL p l e s m below meth c b A G cy ad ce sl Z 1731 [(3, vI i), (0, vR (94, 0, 0)), (1, vR (11, 0, 0)), (2, vR (12, 0, 0))] [] M') : WL p l e s m below meth c b A G cy ad ce sl Z 1685 [(3, vI i), (0, vR (94, 0, 0)), (1, vR (11, 0, 0)), (2, vR (12, 0, 0))] [] M := by
  refine wl_aload_n X dL_law_1685 rfl 2 rfl ?_
  refine wl_arg X 1 hi (by decide) (v := 1) (by decide) (ki := 1) (by decide) 1 0 rfl rfl dL_law_1686 dL_law_1687 dL_law_1688 dL_law_1689 dL_law_1690 ?_
  refine wl_callC X (as := [vI (xs (i.toInt.toNat + 1))]) (rest := []) (c_X11_count l G cy ad 0 (xs (i.toInt.toNat + 1)) M hI) kV_X11_count (by decide +kernel) (Nat.le_of_ble_eq_true rfl) m_1292 rfl rfl rfl (by decide) (Nat.le_of_ble_eq_true rfl) (Nat.le_of_ble_eq_true rfl) dL_law_1691 (fun r1_ M2_ q3_ => ?_)
  obtain ⟨hI1_, hF1_, -, hs1_⟩ := q3_
  have e1_ : mgC M2_ M = M2_ := mgC_self hF1_ SC_X11_count
  rw [e1_]
  have hD1_ : InvD M2_ := e1_ ▸ mgC_D (M' := M2_) hD
  refine wl_pop X dL_law_1694 ?_
  refine wl_aload_n X dL_law_1695 rfl 3 rfl ?_
  refine wl_arg X 1 hi (by decide) (v := 1) (by decide) (ki := 1) (by decide) 1 0 rfl rfl dL_law_1696 dL_law_1697 dL_law_1698 dL_law_1699 dL_law_1700 ?_
  refine wl_callD X (as := [vI (xs (i.toInt.toNat + 1))]) (rest := []) (c_X12_count l G cy ad 0 (xs (i.toInt.toNat + 1)) M2_ hD1_) kV_X12_count (by decide +kernel) (Nat.le_of_ble_eq_true rfl) m_1858 rfl rfl rfl (by decide) (Nat.le_of_ble_eq_true rfl) (Nat.le_of_ble_eq_true rfl) dL_law_1701 (fun r4_ M5_ q6_ => ?_)
  obtain ⟨hI2_, hF2_, -, hs2_⟩ := q6_
  have e2_ : (mgD M5_ M2_).1 = M5_.1 := mgD_self hF2_ SD_X12_count
  have hI9_ : Inv (mgD M5_ M2_) := mgD_I hI1_
  have hD9_ : InvD (mgD M5_ M2_) := mgD_D hI2_
  have st_ := sy_39 hR hD hD1_ hI2_ hF1_ hs1_ hF2_ hs2_
  refine wl_pop X dL_law_1704 ?_
  refine wl_goto X (tgt := 1731) dL_law_1705 (by decide) ?_
  exact hend _ hI9_ hD9_ (by rw [e2_]; exact st_.1)
set_option maxHeartbeats 4000000 in
set_option maxRecDepth 100000 in
theorem law_case_40 {p : Program} {l : Launch} {e : Env} {s : State} {m : MethodId} {below : List Frame} {meth : Method} {c : Code} {b L : Nat} {xs : Nat → Int32} {A : Nat → Prop} {G : va_G} {cy : Nat → ClassId} {ad : rf → Nat} {ce sl : Nat} {Z : State → Prop} (X : LX p s m c b L xs A G cy ad ce sl) {i : Int32} {M : mM} (hI : Inv M) (hD : InvD M) (hR : RY M.1) (hi : 0 ≤ i.toInt ∧ i.toInt + 6 ≤ (L : Int)) (hend : ∀ M' : mM, Inv M' → InvD M' → RY M'.1 → WL p l e s m below meth c b A G cy ad ce sl Z 1731 [(3, vI i), (0, vR (94, 0, 0)), (1, vR (11, 0, 0)), (2, vR (12, 0, 0))] [] M') : WL p l e s m below meth c b A G cy ad ce sl Z 1708 [(3, vI i), (0, vR (94, 0, 0)), (1, vR (11, 0, 0)), (2, vR (12, 0, 0))] [] M := by
  refine wl_aload_n X dL_law_1708 rfl 2 rfl ?_
  refine wl_arg X 1 hi (by decide) (v := 1) (by decide) (ki := 1) (by decide) 1 0 rfl rfl dL_law_1709 dL_law_1710 dL_law_1711 dL_law_1712 dL_law_1713 ?_
  refine wl_callC X (as := [vI (xs (i.toInt.toNat + 1))]) (rest := []) (c_X11_told l G cy ad 0 (xs (i.toInt.toNat + 1)) M hI) kV_X11_told (by decide +kernel) (Nat.le_of_ble_eq_true rfl) m_1308 rfl rfl rfl (by decide) (Nat.le_of_ble_eq_true rfl) (Nat.le_of_ble_eq_true rfl) dL_law_1714 (fun r1_ M2_ q3_ => ?_)
  obtain ⟨hI1_, hF1_, -, hs1_⟩ := q3_
  have e1_ : mgC M2_ M = M2_ := mgC_self hF1_ SC_X11_told
  rw [e1_]
  have hD1_ : InvD M2_ := e1_ ▸ mgC_D (M' := M2_) hD
  refine wl_pop X dL_law_1717 ?_
  refine wl_aload_n X dL_law_1718 rfl 3 rfl ?_
  refine wl_arg X 1 hi (by decide) (v := 1) (by decide) (ki := 1) (by decide) 1 0 rfl rfl dL_law_1719 dL_law_1720 dL_law_1721 dL_law_1722 dL_law_1723 ?_
  refine wl_callD X (as := [vI (xs (i.toInt.toNat + 1))]) (rest := []) (c_X12_told l G cy ad 0 (xs (i.toInt.toNat + 1)) M2_ hD1_) kV_X12_told (by decide +kernel) (Nat.le_of_ble_eq_true rfl) m_1866 rfl rfl rfl (by decide) (Nat.le_of_ble_eq_true rfl) (Nat.le_of_ble_eq_true rfl) dL_law_1724 (fun r4_ M5_ q6_ => ?_)
  obtain ⟨hI2_, hF2_, -, hs2_⟩ := q6_
  have e2_ : (mgD M5_ M2_).1 = M5_.1 := mgD_self hF2_ SD_X12_told
  have hI9_ : Inv (mgD M5_ M2_) := mgD_I hI1_
  have hD9_ : InvD (mgD M5_ M2_) := mgD_D hI2_
  have st_ := sy_40 hR hD hD1_ hI2_ hF1_ hs1_ hF2_ hs2_
  refine wl_pop X dL_law_1727 ?_
  refine wl_goto X (tgt := 1731) dL_law_1728 (by decide) ?_
  exact hend _ hI9_ hD9_ (by rw [e2_]; exact st_.1)
