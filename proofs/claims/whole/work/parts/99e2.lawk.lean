/-! ===== the law's cases 24 .. ===== -/
section JLC24
variable {p : Program} {l : Launch} {e : Env} {s : State} {m : MethodId} {args : Array Value} {below : List Frame} {meth : Method} {c : Code} {Q : State → Prop}
variable {x : Nat → Value} {D : va_G} {G : ji_G} {b L : Nat} {xs : Nat → Int32} {X N : ji_M} {H : Heap} {locs : List Loc} {cells slots bX bN : Nat} {ls : Array Slot} {x3 : Int32}
set_option maxRecDepth 100000 in
theorem jl_case_24 (C : jl_Cx p s m args c b L xs x D G) (R : ji_Rel jx_P X N) (I : jl_I s D G bX bN X N H locs) (hl : lv_has ls 4 [(3, .int x3), (2, .ref bN), (1, .ref bX), (0, .ref b)]) (hin : ∀ j : Nat, j ≤ 5 → vp_in (x3 + Int32.ofInt j) L) (hcs : cells ≤ 600000) (hss : slots ≤ 7302250)
    (kk : ∀ (X' N' : ji_M) (H1 : Heap) (locs1 : List Loc), ji_Rel jx_P X' N' → jl_I s D G bX bN X' N' H1 locs1 → W p l e room_1 s m args below meth c H1 locs1 cells slots Q (F0 m 1359 ls [])) : W p l e room_1 s m args below meth c H locs cells slots Q (F0 m 959 ls []) := by
  obtain ⟨hx, hb, -, hown, hts, -⟩ := id C
  obtain ⟨v, X', N', n1, n2, e1, e2, R'⟩ := jl_two (call_24 (x := jl_z xs x3 1) (y := jl_z xs x3 2) (z := jl_z xs x3 3) R)
  obtain ⟨z, rfl⟩ := jl_int (by decide +kernel) e1
  refine lv_aload_n hx hb jl_d_959 rfl (lv_at hl 2 rfl) ?_
  refine jl_arg C I hl jl_d_960 jl_d_961 jl_d_962 jl_d_963 jl_d_964 (hin 1 (by decide)) ?_
  refine jl_arg C I hl jl_d_965 jl_d_966 jl_d_967 jl_d_968 jl_d_969 (hin 2 (by decide)) ?_
  refine jl_arg C I hl jl_d_970 jl_d_971 jl_d_972 jl_d_973 jl_d_974 (hin 3 (by decide)) ?_
  refine jl_cX (As := [.int (jl_z xs x3 1), .int (jl_z xs x3 2), .int (jl_z xs x3 3)]) (rest := []) C I hl.1 e1 (xk_0 R.xf) (by decide +kernel) jl_w131 (by show (parseMethodDescriptor (ji_m 131).1.desc).map (fun d => d.parameters.length) = some 3; decide +kernel) rfl (Nat.le_of_ble_eq_true rfl) jl_d_975 hcs hss (fun H1 locs1 I1 => ?_)
  refine lv_aload_n hx hb jl_d_978 rfl (lv_at hl 1 rfl) ?_
  refine jl_arg C I1 hl jl_d_979 jl_d_980 jl_d_981 jl_d_982 jl_d_983 (hin 1 (by decide)) ?_
  refine jl_arg C I1 hl jl_d_984 jl_d_985 jl_d_986 jl_d_987 jl_d_988 (hin 2 (by decide)) ?_
  refine jl_arg C I1 hl jl_d_989 jl_d_990 jl_d_991 jl_d_992 jl_d_993 (hin 3 (by decide)) ?_
  refine jl_cN (As := [.int (jl_z xs x3 1), .int (jl_z xs x3 2), .int (jl_z xs x3 3)]) (rest := [.int z]) C I1 hl.1 e2 (mk_0 R.mf) (by decide +kernel) jl_w216 (by show (parseMethodDescriptor (ji_m 216).1.desc).map (fun d => d.parameters.length) = some 3; decide +kernel) rfl (Nat.le_of_ble_eq_true rfl) jl_d_994 hcs hss (fun H2 locs2 I2 => ?_)
  exact lv_icmp_eq (x := z) (y := z) hx hb jl_d_997 (by decide) (fun _ => kk X' N' _ _ R' I2) (fun h => absurd rfl h)
set_option maxRecDepth 100000 in
theorem jl_case_25 (C : jl_Cx p s m args c b L xs x D G) (R : ji_Rel jx_P X N) (I : jl_I s D G bX bN X N H locs) (hl : lv_has ls 4 [(3, .int x3), (2, .ref bN), (1, .ref bX), (0, .ref b)]) (hin : ∀ j : Nat, j ≤ 5 → vp_in (x3 + Int32.ofInt j) L) (hcs : cells ≤ 600000) (hss : slots ≤ 7302250)
    (kk : ∀ (X' N' : ji_M) (H1 : Heap) (locs1 : List Loc), ji_Rel jx_P X' N' → jl_I s D G bX bN X' N' H1 locs1 → W p l e room_1 s m args below meth c H1 locs1 cells slots Q (F0 m 1359 ls [])) : W p l e room_1 s m args below meth c H locs cells slots Q (F0 m 1002 ls []) := by
  obtain ⟨hx, hb, -, hown, hts, -⟩ := id C
  obtain ⟨v, X', N', n1, n2, e1, e2, R'⟩ := jl_two (call_25 (x := jl_z xs x3 1) R)
  obtain ⟨z, rfl⟩ := jl_int (by decide +kernel) e1
  refine lv_aload_n hx hb jl_d_1002 rfl (lv_at hl 2 rfl) ?_
  refine jl_arg C I hl jl_d_1003 jl_d_1004 jl_d_1005 jl_d_1006 jl_d_1007 (hin 1 (by decide)) ?_
  refine jl_cX (As := [.int (jl_z xs x3 1)]) (rest := []) C I hl.1 e1 (xk_0 R.xf) (by decide +kernel) jl_w132 (by show (parseMethodDescriptor (ji_m 132).1.desc).map (fun d => d.parameters.length) = some 1; decide +kernel) rfl (Nat.le_of_ble_eq_true rfl) jl_d_1008 hcs hss (fun H1 locs1 I1 => ?_)
  refine lv_aload_n hx hb jl_d_1011 rfl (lv_at hl 1 rfl) ?_
  refine jl_arg C I1 hl jl_d_1012 jl_d_1013 jl_d_1014 jl_d_1015 jl_d_1016 (hin 1 (by decide)) ?_
  refine jl_cN (As := [.int (jl_z xs x3 1)]) (rest := [.int z]) C I1 hl.1 e2 (mk_0 R.mf) (by decide +kernel) jl_w217 (by show (parseMethodDescriptor (ji_m 217).1.desc).map (fun d => d.parameters.length) = some 1; decide +kernel) rfl (Nat.le_of_ble_eq_true rfl) jl_d_1017 hcs hss (fun H2 locs2 I2 => ?_)
  exact lv_icmp_eq (x := z) (y := z) hx hb jl_d_1020 (by decide) (fun _ => kk X' N' _ _ R' I2) (fun h => absurd rfl h)
set_option maxRecDepth 100000 in
theorem jl_case_26 (C : jl_Cx p s m args c b L xs x D G) (R : ji_Rel jx_P X N) (I : jl_I s D G bX bN X N H locs) (hl : lv_has ls 4 [(3, .int x3), (2, .ref bN), (1, .ref bX), (0, .ref b)]) (hin : ∀ j : Nat, j ≤ 5 → vp_in (x3 + Int32.ofInt j) L) (hcs : cells ≤ 600000) (hss : slots ≤ 7302250)
    (kk : ∀ (X' N' : ji_M) (H1 : Heap) (locs1 : List Loc), ji_Rel jx_P X' N' → jl_I s D G bX bN X' N' H1 locs1 → W p l e room_1 s m args below meth c H1 locs1 cells slots Q (F0 m 1359 ls [])) : W p l e room_1 s m args below meth c H locs cells slots Q (F0 m 1025 ls []) := by
  obtain ⟨hx, hb, -, hown, hts, -⟩ := id C
  obtain ⟨v, X', N', n1, n2, e1, e2, R'⟩ := jl_two (call_26 (x := jl_z xs x3 1) (y := jl_z xs x3 2) R)
  obtain ⟨z, rfl⟩ := jl_int (by decide +kernel) e1
  refine lv_aload_n hx hb jl_d_1025 rfl (lv_at hl 2 rfl) ?_
  refine jl_arg C I hl jl_d_1026 jl_d_1027 jl_d_1028 jl_d_1029 jl_d_1030 (hin 1 (by decide)) ?_
  refine jl_arg C I hl jl_d_1031 jl_d_1032 jl_d_1033 jl_d_1034 jl_d_1035 (hin 2 (by decide)) ?_
  refine jl_cX (As := [.int (jl_z xs x3 1), .int (jl_z xs x3 2)]) (rest := []) C I hl.1 e1 (xk_0 R.xf) (by decide +kernel) jl_w134 (by show (parseMethodDescriptor (ji_m 134).1.desc).map (fun d => d.parameters.length) = some 2; decide +kernel) rfl (Nat.le_of_ble_eq_true rfl) jl_d_1036 hcs hss (fun H1 locs1 I1 => ?_)
  refine lv_aload_n hx hb jl_d_1039 rfl (lv_at hl 1 rfl) ?_
  refine jl_arg C I1 hl jl_d_1040 jl_d_1041 jl_d_1042 jl_d_1043 jl_d_1044 (hin 1 (by decide)) ?_
  refine jl_arg C I1 hl jl_d_1045 jl_d_1046 jl_d_1047 jl_d_1048 jl_d_1049 (hin 2 (by decide)) ?_
  refine jl_cN (As := [.int (jl_z xs x3 1), .int (jl_z xs x3 2)]) (rest := [.int z]) C I1 hl.1 e2 (mk_0 R.mf) (by decide +kernel) jl_w218 (by show (parseMethodDescriptor (ji_m 218).1.desc).map (fun d => d.parameters.length) = some 2; decide +kernel) rfl (Nat.le_of_ble_eq_true rfl) jl_d_1050 hcs hss (fun H2 locs2 I2 => ?_)
  exact lv_icmp_eq (x := z) (y := z) hx hb jl_d_1053 (by decide) (fun _ => kk X' N' _ _ R' I2) (fun h => absurd rfl h)
set_option maxRecDepth 100000 in
theorem jl_case_27 (C : jl_Cx p s m args c b L xs x D G) (R : ji_Rel jx_P X N) (I : jl_I s D G bX bN X N H locs) (hl : lv_has ls 4 [(3, .int x3), (2, .ref bN), (1, .ref bX), (0, .ref b)]) (hin : ∀ j : Nat, j ≤ 5 → vp_in (x3 + Int32.ofInt j) L) (hcs : cells ≤ 600000) (hss : slots ≤ 7302250)
    (kk : ∀ (X' N' : ji_M) (H1 : Heap) (locs1 : List Loc), ji_Rel jx_P X' N' → jl_I s D G bX bN X' N' H1 locs1 → W p l e room_1 s m args below meth c H1 locs1 cells slots Q (F0 m 1359 ls [])) : W p l e room_1 s m args below meth c H locs cells slots Q (F0 m 1058 ls []) := by
  obtain ⟨hx, hb, -, hown, hts, -⟩ := id C
  obtain ⟨v, X', N', n1, n2, e1, e2, R'⟩ := jl_two (call_27 (x := jl_z xs x3 1) (y := jl_z xs x3 2) (z := jl_z xs x3 3) R)
  obtain ⟨z, rfl⟩ := jl_int (by decide +kernel) e1
  refine lv_aload_n hx hb jl_d_1058 rfl (lv_at hl 2 rfl) ?_
  refine jl_arg C I hl jl_d_1059 jl_d_1060 jl_d_1061 jl_d_1062 jl_d_1063 (hin 1 (by decide)) ?_
  refine jl_arg C I hl jl_d_1064 jl_d_1065 jl_d_1066 jl_d_1067 jl_d_1068 (hin 2 (by decide)) ?_
  refine jl_arg C I hl jl_d_1069 jl_d_1070 jl_d_1071 jl_d_1072 jl_d_1073 (hin 3 (by decide)) ?_
  refine jl_cX (As := [.int (jl_z xs x3 1), .int (jl_z xs x3 2), .int (jl_z xs x3 3)]) (rest := []) C I hl.1 e1 (xk_0 R.xf) (by decide +kernel) jl_w135 (by show (parseMethodDescriptor (ji_m 135).1.desc).map (fun d => d.parameters.length) = some 3; decide +kernel) rfl (Nat.le_of_ble_eq_true rfl) jl_d_1074 hcs hss (fun H1 locs1 I1 => ?_)
  refine lv_aload_n hx hb jl_d_1077 rfl (lv_at hl 1 rfl) ?_
  refine jl_arg C I1 hl jl_d_1078 jl_d_1079 jl_d_1080 jl_d_1081 jl_d_1082 (hin 1 (by decide)) ?_
  refine jl_arg C I1 hl jl_d_1083 jl_d_1084 jl_d_1085 jl_d_1086 jl_d_1087 (hin 2 (by decide)) ?_
  refine jl_arg C I1 hl jl_d_1088 jl_d_1089 jl_d_1090 jl_d_1091 jl_d_1092 (hin 3 (by decide)) ?_
  refine jl_cN (As := [.int (jl_z xs x3 1), .int (jl_z xs x3 2), .int (jl_z xs x3 3)]) (rest := [.int z]) C I1 hl.1 e2 (mk_0 R.mf) (by decide +kernel) jl_w219 (by show (parseMethodDescriptor (ji_m 219).1.desc).map (fun d => d.parameters.length) = some 3; decide +kernel) rfl (Nat.le_of_ble_eq_true rfl) jl_d_1093 hcs hss (fun H2 locs2 I2 => ?_)
  exact lv_icmp_eq (x := z) (y := z) hx hb jl_d_1096 (by decide) (fun _ => kk X' N' _ _ R' I2) (fun h => absurd rfl h)
set_option maxRecDepth 100000 in
theorem jl_case_28 (C : jl_Cx p s m args c b L xs x D G) (R : ji_Rel jx_P X N) (I : jl_I s D G bX bN X N H locs) (hl : lv_has ls 4 [(3, .int x3), (2, .ref bN), (1, .ref bX), (0, .ref b)]) (hin : ∀ j : Nat, j ≤ 5 → vp_in (x3 + Int32.ofInt j) L) (hcs : cells ≤ 600000) (hss : slots ≤ 7302250)
    (kk : ∀ (X' N' : ji_M) (H1 : Heap) (locs1 : List Loc), ji_Rel jx_P X' N' → jl_I s D G bX bN X' N' H1 locs1 → W p l e room_1 s m args below meth c H1 locs1 cells slots Q (F0 m 1359 ls [])) : W p l e room_1 s m args below meth c H locs cells slots Q (F0 m 1101 ls []) := by
  obtain ⟨hx, hb, -, hown, hts, -⟩ := id C
  obtain ⟨v, X', N', n1, n2, e1, e2, R'⟩ := jl_two (call_28 (x := jl_z xs x3 1) R)
  obtain ⟨z, rfl⟩ := jl_int (by decide +kernel) e1
  refine lv_aload_n hx hb jl_d_1101 rfl (lv_at hl 2 rfl) ?_
  refine jl_arg C I hl jl_d_1102 jl_d_1103 jl_d_1104 jl_d_1105 jl_d_1106 (hin 1 (by decide)) ?_
  refine jl_cX (As := [.int (jl_z xs x3 1)]) (rest := []) C I hl.1 e1 (xk_0 R.xf) (by decide +kernel) jl_w141 (by show (parseMethodDescriptor (ji_m 141).1.desc).map (fun d => d.parameters.length) = some 1; decide +kernel) rfl (Nat.le_of_ble_eq_true rfl) jl_d_1107 hcs hss (fun H1 locs1 I1 => ?_)
  refine lv_aload_n hx hb jl_d_1110 rfl (lv_at hl 1 rfl) ?_
  refine jl_arg C I1 hl jl_d_1111 jl_d_1112 jl_d_1113 jl_d_1114 jl_d_1115 (hin 1 (by decide)) ?_
  refine jl_cN (As := [.int (jl_z xs x3 1)]) (rest := [.int z]) C I1 hl.1 e2 (mk_0 R.mf) (by decide +kernel) jl_w221 (by show (parseMethodDescriptor (ji_m 221).1.desc).map (fun d => d.parameters.length) = some 1; decide +kernel) rfl (Nat.le_of_ble_eq_true rfl) jl_d_1116 hcs hss (fun H2 locs2 I2 => ?_)
  exact lv_icmp_eq (x := z) (y := z) hx hb jl_d_1119 (by decide) (fun _ => kk X' N' _ _ R' I2) (fun h => absurd rfl h)
set_option maxRecDepth 100000 in
theorem jl_case_29 (C : jl_Cx p s m args c b L xs x D G) (R : ji_Rel jx_P X N) (I : jl_I s D G bX bN X N H locs) (hl : lv_has ls 4 [(3, .int x3), (2, .ref bN), (1, .ref bX), (0, .ref b)]) (hin : ∀ j : Nat, j ≤ 5 → vp_in (x3 + Int32.ofInt j) L) (hcs : cells ≤ 600000) (hss : slots ≤ 7302250)
    (kk : ∀ (X' N' : ji_M) (H1 : Heap) (locs1 : List Loc), ji_Rel jx_P X' N' → jl_I s D G bX bN X' N' H1 locs1 → W p l e room_1 s m args below meth c H1 locs1 cells slots Q (F0 m 1359 ls [])) : W p l e room_1 s m args below meth c H locs cells slots Q (F0 m 1124 ls []) := by
  obtain ⟨hx, hb, -, hown, hts, -⟩ := id C
  obtain ⟨v, X', N', n1, n2, e1, e2, R'⟩ := jl_two (call_29 (x := jl_z xs x3 1) (y := jl_z xs x3 2) (z := jl_z xs x3 3) R)
  obtain ⟨z, rfl⟩ := jl_int (by decide +kernel) e1
  refine lv_aload_n hx hb jl_d_1124 rfl (lv_at hl 2 rfl) ?_
  refine jl_arg C I hl jl_d_1125 jl_d_1126 jl_d_1127 jl_d_1128 jl_d_1129 (hin 1 (by decide)) ?_
  refine jl_arg C I hl jl_d_1130 jl_d_1131 jl_d_1132 jl_d_1133 jl_d_1134 (hin 2 (by decide)) ?_
  refine jl_arg C I hl jl_d_1135 jl_d_1136 jl_d_1137 jl_d_1138 jl_d_1139 (hin 3 (by decide)) ?_
  refine jl_cX (As := [.int (jl_z xs x3 1), .int (jl_z xs x3 2), .int (jl_z xs x3 3)]) (rest := []) C I hl.1 e1 (xk_0 R.xf) (by decide +kernel) jl_w142 (by show (parseMethodDescriptor (ji_m 142).1.desc).map (fun d => d.parameters.length) = some 3; decide +kernel) rfl (Nat.le_of_ble_eq_true rfl) jl_d_1140 hcs hss (fun H1 locs1 I1 => ?_)
  refine lv_aload_n hx hb jl_d_1143 rfl (lv_at hl 1 rfl) ?_
  refine jl_arg C I1 hl jl_d_1144 jl_d_1145 jl_d_1146 jl_d_1147 jl_d_1148 (hin 1 (by decide)) ?_
  refine jl_arg C I1 hl jl_d_1149 jl_d_1150 jl_d_1151 jl_d_1152 jl_d_1153 (hin 2 (by decide)) ?_
  refine jl_arg C I1 hl jl_d_1154 jl_d_1155 jl_d_1156 jl_d_1157 jl_d_1158 (hin 3 (by decide)) ?_
  refine jl_cN (As := [.int (jl_z xs x3 1), .int (jl_z xs x3 2), .int (jl_z xs x3 3)]) (rest := [.int z]) C I1 hl.1 e2 (mk_0 R.mf) (by decide +kernel) jl_w222 (by show (parseMethodDescriptor (ji_m 222).1.desc).map (fun d => d.parameters.length) = some 3; decide +kernel) rfl (Nat.le_of_ble_eq_true rfl) jl_d_1159 hcs hss (fun H2 locs2 I2 => ?_)
  exact lv_icmp_eq (x := z) (y := z) hx hb jl_d_1162 (by decide) (fun _ => kk X' N' _ _ R' I2) (fun h => absurd rfl h)
set_option maxRecDepth 100000 in
theorem jl_case_30 (C : jl_Cx p s m args c b L xs x D G) (R : ji_Rel jx_P X N) (I : jl_I s D G bX bN X N H locs) (hl : lv_has ls 4 [(3, .int x3), (2, .ref bN), (1, .ref bX), (0, .ref b)]) (hin : ∀ j : Nat, j ≤ 5 → vp_in (x3 + Int32.ofInt j) L) (hcs : cells ≤ 600000) (hss : slots ≤ 7302250)
    (kk : ∀ (X' N' : ji_M) (H1 : Heap) (locs1 : List Loc), ji_Rel jx_P X' N' → jl_I s D G bX bN X' N' H1 locs1 → W p l e room_1 s m args below meth c H1 locs1 cells slots Q (F0 m 1359 ls [])) : W p l e room_1 s m args below meth c H locs cells slots Q (F0 m 1167 ls []) := by
  obtain ⟨hx, hb, -, hown, hts, -⟩ := id C
  obtain ⟨v, X', N', n1, n2, e1, e2, R'⟩ := jl_two (call_30 (x := jl_z xs x3 1) (y := jl_z xs x3 2) (z := jl_z xs x3 3) R)
  obtain ⟨z, rfl⟩ := jl_int (by decide +kernel) e1
  refine lv_aload_n hx hb jl_d_1167 rfl (lv_at hl 2 rfl) ?_
  refine jl_arg C I hl jl_d_1168 jl_d_1169 jl_d_1170 jl_d_1171 jl_d_1172 (hin 1 (by decide)) ?_
  refine jl_arg C I hl jl_d_1173 jl_d_1174 jl_d_1175 jl_d_1176 jl_d_1177 (hin 2 (by decide)) ?_
  refine jl_arg C I hl jl_d_1178 jl_d_1179 jl_d_1180 jl_d_1181 jl_d_1182 (hin 3 (by decide)) ?_
  refine jl_cX (As := [.int (jl_z xs x3 1), .int (jl_z xs x3 2), .int (jl_z xs x3 3)]) (rest := []) C I hl.1 e1 (xk_0 R.xf) (by decide +kernel) jl_w145 (by show (parseMethodDescriptor (ji_m 145).1.desc).map (fun d => d.parameters.length) = some 3; decide +kernel) rfl (Nat.le_of_ble_eq_true rfl) jl_d_1183 hcs hss (fun H1 locs1 I1 => ?_)
  refine lv_aload_n hx hb jl_d_1186 rfl (lv_at hl 1 rfl) ?_
  refine jl_arg C I1 hl jl_d_1187 jl_d_1188 jl_d_1189 jl_d_1190 jl_d_1191 (hin 1 (by decide)) ?_
  refine jl_arg C I1 hl jl_d_1192 jl_d_1193 jl_d_1194 jl_d_1195 jl_d_1196 (hin 2 (by decide)) ?_
  refine jl_arg C I1 hl jl_d_1197 jl_d_1198 jl_d_1199 jl_d_1200 jl_d_1201 (hin 3 (by decide)) ?_
  refine jl_cN (As := [.int (jl_z xs x3 1), .int (jl_z xs x3 2), .int (jl_z xs x3 3)]) (rest := [.int z]) C I1 hl.1 e2 (mk_0 R.mf) (by decide +kernel) jl_w224 (by show (parseMethodDescriptor (ji_m 224).1.desc).map (fun d => d.parameters.length) = some 3; decide +kernel) rfl (Nat.le_of_ble_eq_true rfl) jl_d_1202 hcs hss (fun H2 locs2 I2 => ?_)
  exact lv_icmp_eq (x := z) (y := z) hx hb jl_d_1205 (by decide) (fun _ => kk X' N' _ _ R' I2) (fun h => absurd rfl h)
set_option maxRecDepth 100000 in
theorem jl_case_31 (C : jl_Cx p s m args c b L xs x D G) (R : ji_Rel jx_P X N) (I : jl_I s D G bX bN X N H locs) (hl : lv_has ls 4 [(3, .int x3), (2, .ref bN), (1, .ref bX), (0, .ref b)]) (hin : ∀ j : Nat, j ≤ 5 → vp_in (x3 + Int32.ofInt j) L) (hcs : cells ≤ 600000) (hss : slots ≤ 7302250)
    (kk : ∀ (X' N' : ji_M) (H1 : Heap) (locs1 : List Loc), ji_Rel jx_P X' N' → jl_I s D G bX bN X' N' H1 locs1 → W p l e room_1 s m args below meth c H1 locs1 cells slots Q (F0 m 1359 ls [])) : W p l e room_1 s m args below meth c H locs cells slots Q (F0 m 1210 ls []) := by
  obtain ⟨hx, hb, -, hown, hts, -⟩ := id C
  obtain ⟨v, X', N', n1, n2, e1, e2, R'⟩ := jl_two (call_31 (x := jl_z xs x3 1) (y := jl_z xs x3 2) (v := jl_z xs x3 3) (w := jl_z xs x3 4) (n := jl_z xs x3 5) R)
  obtain ⟨z, rfl⟩ := jl_int (by decide +kernel) e1
  refine lv_aload_n hx hb jl_d_1210 rfl (lv_at hl 2 rfl) ?_
  refine jl_arg C I hl jl_d_1211 jl_d_1212 jl_d_1213 jl_d_1214 jl_d_1215 (hin 1 (by decide)) ?_
  refine jl_arg C I hl jl_d_1216 jl_d_1217 jl_d_1218 jl_d_1219 jl_d_1220 (hin 2 (by decide)) ?_
  refine jl_arg C I hl jl_d_1221 jl_d_1222 jl_d_1223 jl_d_1224 jl_d_1225 (hin 3 (by decide)) ?_
  refine jl_arg C I hl jl_d_1226 jl_d_1227 jl_d_1228 jl_d_1229 jl_d_1230 (hin 4 (by decide)) ?_
  refine jl_arg C I hl jl_d_1231 jl_d_1232 jl_d_1233 jl_d_1234 jl_d_1235 (hin 5 (by decide)) ?_
  refine jl_cX (As := [.int (jl_z xs x3 1), .int (jl_z xs x3 2), .int (jl_z xs x3 3), .int (jl_z xs x3 4), .int (jl_z xs x3 5)]) (rest := []) C I hl.1 e1 (xk_0 R.xf) (by decide +kernel) jl_w150 (by show (parseMethodDescriptor (ji_m 150).1.desc).map (fun d => d.parameters.length) = some 5; decide +kernel) rfl (Nat.le_of_ble_eq_true rfl) jl_d_1236 hcs hss (fun H1 locs1 I1 => ?_)
  refine lv_aload_n hx hb jl_d_1239 rfl (lv_at hl 1 rfl) ?_
  refine jl_arg C I1 hl jl_d_1240 jl_d_1241 jl_d_1242 jl_d_1243 jl_d_1244 (hin 1 (by decide)) ?_
  refine jl_arg C I1 hl jl_d_1245 jl_d_1246 jl_d_1247 jl_d_1248 jl_d_1249 (hin 2 (by decide)) ?_
  refine jl_arg C I1 hl jl_d_1250 jl_d_1251 jl_d_1252 jl_d_1253 jl_d_1254 (hin 3 (by decide)) ?_
  refine jl_arg C I1 hl jl_d_1255 jl_d_1256 jl_d_1257 jl_d_1258 jl_d_1259 (hin 4 (by decide)) ?_
  refine jl_arg C I1 hl jl_d_1260 jl_d_1261 jl_d_1262 jl_d_1263 jl_d_1264 (hin 5 (by decide)) ?_
  refine jl_cN (As := [.int (jl_z xs x3 1), .int (jl_z xs x3 2), .int (jl_z xs x3 3), .int (jl_z xs x3 4), .int (jl_z xs x3 5)]) (rest := [.int z]) C I1 hl.1 e2 (mk_0 R.mf) (by decide +kernel) jl_w225 (by show (parseMethodDescriptor (ji_m 225).1.desc).map (fun d => d.parameters.length) = some 5; decide +kernel) rfl (Nat.le_of_ble_eq_true rfl) jl_d_1265 hcs hss (fun H2 locs2 I2 => ?_)
  exact lv_icmp_eq (x := z) (y := z) hx hb jl_d_1268 (by decide) (fun _ => kk X' N' _ _ R' I2) (fun h => absurd rfl h)
set_option maxRecDepth 100000 in
theorem jl_case_32 (C : jl_Cx p s m args c b L xs x D G) (R : ji_Rel jx_P X N) (I : jl_I s D G bX bN X N H locs) (hl : lv_has ls 4 [(3, .int x3), (2, .ref bN), (1, .ref bX), (0, .ref b)]) (hin : ∀ j : Nat, j ≤ 5 → vp_in (x3 + Int32.ofInt j) L) (hcs : cells ≤ 600000) (hss : slots ≤ 7302250)
    (kk : ∀ (X' N' : ji_M) (H1 : Heap) (locs1 : List Loc), ji_Rel jx_P X' N' → jl_I s D G bX bN X' N' H1 locs1 → W p l e room_1 s m args below meth c H1 locs1 cells slots Q (F0 m 1359 ls [])) : W p l e room_1 s m args below meth c H locs cells slots Q (F0 m 1273 ls []) := by
  obtain ⟨hx, hb, -, hown, hts, -⟩ := id C
  obtain ⟨v, X', N', n1, n2, e1, e2, R'⟩ := jl_two (call_32 (x := jl_z xs x3 1) (y := jl_z xs x3 2) (z := jl_z xs x3 3) (v := jl_z xs x3 4) R)
  obtain ⟨z, rfl⟩ := jl_int (by decide +kernel) e1
  refine lv_aload_n hx hb jl_d_1273 rfl (lv_at hl 2 rfl) ?_
  refine jl_arg C I hl jl_d_1274 jl_d_1275 jl_d_1276 jl_d_1277 jl_d_1278 (hin 1 (by decide)) ?_
  refine jl_arg C I hl jl_d_1279 jl_d_1280 jl_d_1281 jl_d_1282 jl_d_1283 (hin 2 (by decide)) ?_
  refine jl_arg C I hl jl_d_1284 jl_d_1285 jl_d_1286 jl_d_1287 jl_d_1288 (hin 3 (by decide)) ?_
  refine jl_arg C I hl jl_d_1289 jl_d_1290 jl_d_1291 jl_d_1292 jl_d_1293 (hin 4 (by decide)) ?_
  refine jl_cX (As := [.int (jl_z xs x3 1), .int (jl_z xs x3 2), .int (jl_z xs x3 3), .int (jl_z xs x3 4)]) (rest := []) C I hl.1 e1 (xk_0 R.xf) (by decide +kernel) jl_w153 (by show (parseMethodDescriptor (ji_m 153).1.desc).map (fun d => d.parameters.length) = some 4; decide +kernel) rfl (Nat.le_of_ble_eq_true rfl) jl_d_1294 hcs hss (fun H1 locs1 I1 => ?_)
  refine lv_aload_n hx hb jl_d_1297 rfl (lv_at hl 1 rfl) ?_
  refine jl_arg C I1 hl jl_d_1298 jl_d_1299 jl_d_1300 jl_d_1301 jl_d_1302 (hin 1 (by decide)) ?_
  refine jl_arg C I1 hl jl_d_1303 jl_d_1304 jl_d_1305 jl_d_1306 jl_d_1307 (hin 2 (by decide)) ?_
  refine jl_arg C I1 hl jl_d_1308 jl_d_1309 jl_d_1310 jl_d_1311 jl_d_1312 (hin 3 (by decide)) ?_
  refine jl_arg C I1 hl jl_d_1313 jl_d_1314 jl_d_1315 jl_d_1316 jl_d_1317 (hin 4 (by decide)) ?_
  refine jl_cN (As := [.int (jl_z xs x3 1), .int (jl_z xs x3 2), .int (jl_z xs x3 3), .int (jl_z xs x3 4)]) (rest := [.int z]) C I1 hl.1 e2 (mk_0 R.mf) (by decide +kernel) jl_w226 (by show (parseMethodDescriptor (ji_m 226).1.desc).map (fun d => d.parameters.length) = some 4; decide +kernel) rfl (Nat.le_of_ble_eq_true rfl) jl_d_1318 hcs hss (fun H2 locs2 I2 => ?_)
  exact lv_icmp_eq (x := z) (y := z) hx hb jl_d_1321 (by decide) (fun _ => kk X' N' _ _ R' I2) (fun h => absurd rfl h)
set_option maxRecDepth 100000 in
theorem jl_case_33 (C : jl_Cx p s m args c b L xs x D G) (R : ji_Rel jx_P X N) (I : jl_I s D G bX bN X N H locs) (hl : lv_has ls 4 [(3, .int x3), (2, .ref bN), (1, .ref bX), (0, .ref b)]) (hin : ∀ j : Nat, j ≤ 5 → vp_in (x3 + Int32.ofInt j) L) (hcs : cells ≤ 600000) (hss : slots ≤ 7302250)
    (kk : ∀ (X' N' : ji_M) (H1 : Heap) (locs1 : List Loc), ji_Rel jx_P X' N' → jl_I s D G bX bN X' N' H1 locs1 → W p l e room_1 s m args below meth c H1 locs1 cells slots Q (F0 m 1359 ls [])) : W p l e room_1 s m args below meth c H locs cells slots Q (F0 m 1326 ls []) := by
  obtain ⟨hx, hb, -, hown, hts, -⟩ := id C
  obtain ⟨v, X', N', n1, n2, e1, e2, R'⟩ := jl_two (call_33 (x := jl_z xs x3 1) (y := jl_z xs x3 2) R)
  obtain ⟨z, rfl⟩ := jl_int (by decide +kernel) e1
  refine lv_aload_n hx hb jl_d_1326 rfl (lv_at hl 2 rfl) ?_
  refine jl_arg C I hl jl_d_1327 jl_d_1328 jl_d_1329 jl_d_1330 jl_d_1331 (hin 1 (by decide)) ?_
  refine jl_arg C I hl jl_d_1332 jl_d_1333 jl_d_1334 jl_d_1335 jl_d_1336 (hin 2 (by decide)) ?_
  refine jl_cX (As := [.int (jl_z xs x3 1), .int (jl_z xs x3 2)]) (rest := []) C I hl.1 e1 (xk_0 R.xf) (by decide +kernel) jl_w155 (by show (parseMethodDescriptor (ji_m 155).1.desc).map (fun d => d.parameters.length) = some 2; decide +kernel) rfl (Nat.le_of_ble_eq_true rfl) jl_d_1337 hcs hss (fun H1 locs1 I1 => ?_)
  refine lv_aload_n hx hb jl_d_1340 rfl (lv_at hl 1 rfl) ?_
  refine jl_arg C I1 hl jl_d_1341 jl_d_1342 jl_d_1343 jl_d_1344 jl_d_1345 (hin 1 (by decide)) ?_
  refine jl_arg C I1 hl jl_d_1346 jl_d_1347 jl_d_1348 jl_d_1349 jl_d_1350 (hin 2 (by decide)) ?_
  refine jl_cN (As := [.int (jl_z xs x3 1), .int (jl_z xs x3 2)]) (rest := [.int z]) C I1 hl.1 e2 (mk_0 R.mf) (by decide +kernel) jl_w227 (by show (parseMethodDescriptor (ji_m 227).1.desc).map (fun d => d.parameters.length) = some 2; decide +kernel) rfl (Nat.le_of_ble_eq_true rfl) jl_d_1351 hcs hss (fun H2 locs2 I2 => ?_)
  exact lv_icmp_eq (x := z) (y := z) hx hb jl_d_1354 (by decide) (fun _ => kk X' N' _ _ R' I2) (fun h => absurd rfl h)
end JLC24
