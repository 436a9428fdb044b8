/-! the law: calls 22 to 28 -/
theorem dL_law_1064 : decode cL_law 1064 = .ok (.aload_n 1, 1) := by decide +kernel
theorem dL_law_1065 : decode cL_law 1065 = .ok (.aload_n 0, 1) := by decide +kernel
theorem dL_law_1066 : decode cL_law 1066 = .ok (.iload_n 3, 1) := by decide +kernel
theorem dL_law_1067 : decode cL_law 1067 = .ok (.iconst 1, 1) := by decide +kernel
theorem dL_law_1068 : decode cL_law 1068 = .ok (.iadd, 1) := by decide +kernel
theorem dL_law_1069 : decode cL_law 1069 = .ok (.iaload, 1) := by decide +kernel
theorem dL_law_1070 : decode cL_law 1070 = .ok (.aload_n 0, 1) := by decide +kernel
theorem dL_law_1071 : decode cL_law 1071 = .ok (.iload_n 3, 1) := by decide +kernel
theorem dL_law_1072 : decode cL_law 1072 = .ok (.iconst 2, 1) := by decide +kernel
theorem dL_law_1073 : decode cL_law 1073 = .ok (.iadd, 1) := by decide +kernel
theorem dL_law_1074 : decode cL_law 1074 = .ok (.iaload, 1) := by decide +kernel
theorem dL_law_1075 : decode cL_law 1075 = .ok (.aload_n 0, 1) := by decide +kernel
theorem dL_law_1076 : decode cL_law 1076 = .ok (.iload_n 3, 1) := by decide +kernel
theorem dL_law_1077 : decode cL_law 1077 = .ok (.iconst 3, 1) := by decide +kernel
theorem dL_law_1078 : decode cL_law 1078 = .ok (.iadd, 1) := by decide +kernel
theorem dL_law_1079 : decode cL_law 1079 = .ok (.iaload, 1) := by decide +kernel
theorem dL_law_1080 : decode cL_law 1080 = .ok (.invokevirtual 110, 3) := by decide +kernel
theorem dL_law_1083 : decode cL_law 1083 = .ok (.aload_n 2, 1) := by decide +kernel
theorem dL_law_1084 : decode cL_law 1084 = .ok (.aload_n 0, 1) := by decide +kernel
theorem dL_law_1085 : decode cL_law 1085 = .ok (.iload_n 3, 1) := by decide +kernel
theorem dL_law_1086 : decode cL_law 1086 = .ok (.iconst 1, 1) := by decide +kernel
theorem dL_law_1087 : decode cL_law 1087 = .ok (.iadd, 1) := by decide +kernel
theorem dL_law_1088 : decode cL_law 1088 = .ok (.iaload, 1) := by decide +kernel
theorem dL_law_1089 : decode cL_law 1089 = .ok (.aload_n 0, 1) := by decide +kernel
theorem dL_law_1090 : decode cL_law 1090 = .ok (.iload_n 3, 1) := by decide +kernel
theorem dL_law_1091 : decode cL_law 1091 = .ok (.iconst 2, 1) := by decide +kernel
theorem dL_law_1092 : decode cL_law 1092 = .ok (.iadd, 1) := by decide +kernel
theorem dL_law_1093 : decode cL_law 1093 = .ok (.iaload, 1) := by decide +kernel
theorem dL_law_1094 : decode cL_law 1094 = .ok (.aload_n 0, 1) := by decide +kernel
theorem dL_law_1095 : decode cL_law 1095 = .ok (.iload_n 3, 1) := by decide +kernel
theorem dL_law_1096 : decode cL_law 1096 = .ok (.iconst 3, 1) := by decide +kernel
theorem dL_law_1097 : decode cL_law 1097 = .ok (.iadd, 1) := by decide +kernel
theorem dL_law_1098 : decode cL_law 1098 = .ok (.iaload, 1) := by decide +kernel
theorem dL_law_1099 : decode cL_law 1099 = .ok (.invokevirtual 113, 3) := by decide +kernel
theorem dL_law_1102 : decode cL_law 1102 = .ok (.if_icmp .eq 977, 3) := by decide +kernel
set_option maxHeartbeats 400000 in
set_option maxRecDepth 20000 in
theorem law_22 {E : EV} (hE : EOK E) {q v0 : Nat} (hXS : EXS E q v0) {X : TX} {b L : Nat} {xs : Nat → Int32} (h : CX E X cL_law RL ret room_1 4) (hX : LX X b L xs) (hL : L ≤ 3072) {z : Int} (h0 : 0 ≤ z) (h1 : z ≤ L - 6) {A : AS} (K : ∀ A2 : AS, JL E (LQP E) X 2079 [(3, .int (iI z)), (2, eA E 76), (1, eA E 74), (0, .ref b)] [] (A2, A2)) : JL E (LQP E) X 1064 [(3, .int (iI z)), (2, eA E 76), (1, eA E 74), (0, .ref b)] [] (A, A) := by
  refine j_aload_n h 2 dL_law_1064 rfl rfl ?_
  refine j_aload_n h 3 dL_law_1065 rfl rfl ?_
  refine j_iload_n h 0 dL_law_1066 rfl rfl ?_
  refine j_iconst h dL_law_1067 ?_
  refine j_iadd h dL_law_1068 ?_
  refine j_sld h hX hL (by omega) (by omega) dL_law_1069 ?_
  refine j_aload_n h 3 dL_law_1070 rfl rfl ?_
  refine j_iload_n h 0 dL_law_1071 rfl rfl ?_
  refine j_iconst h dL_law_1072 ?_
  refine j_iadd h dL_law_1073 ?_
  refine j_sld h hX hL (by omega) (by omega) dL_law_1074 ?_
  refine j_aload_n h 3 dL_law_1075 rfl rfl ?_
  refine j_iload_n h 0 dL_law_1076 rfl rfl ?_
  refine j_iconst h dL_law_1077 ?_
  refine j_iadd h dL_law_1078 ?_
  refine j_sld h hX hL (by omega) (by omega) dL_law_1079 ?_
  refine j_callV h (ct_L (fun g0 => p_findLastFrom hE (okI_of (xs (z + 1).toNat)) (okI_of (xs (z + 2).toNat)) (okI_of (xs (z + 3).toNat)))) m_X3_findLastFrom a_l_L_110 rfl rfl ⟨Nat.le_of_ble_eq_true rfl, Nat.le_of_ble_eq_true rfl⟩ (ci := 3) rfl (by omega) rcL3 rfl rfl (Nat.le_of_ble_eq_true rfl) dL_law_1080 ?_
  refine j_aload_n h 1 dL_law_1083 rfl rfl ?_
  refine j_aload_n h 3 dL_law_1084 rfl rfl ?_
  refine j_iload_n h 0 dL_law_1085 rfl rfl ?_
  refine j_iconst h dL_law_1086 ?_
  refine j_iadd h dL_law_1087 ?_
  refine j_sld h hX hL (by omega) (by omega) dL_law_1088 ?_
  refine j_aload_n h 3 dL_law_1089 rfl rfl ?_
  refine j_iload_n h 0 dL_law_1090 rfl rfl ?_
  refine j_iconst h dL_law_1091 ?_
  refine j_iadd h dL_law_1092 ?_
  refine j_sld h hX hL (by omega) (by omega) dL_law_1093 ?_
  refine j_aload_n h 3 dL_law_1094 rfl rfl ?_
  refine j_iload_n h 0 dL_law_1095 rfl rfl ?_
  refine j_iconst h dL_law_1096 ?_
  refine j_iadd h dL_law_1097 ?_
  refine j_sld h hX hL (by omega) (by omega) dL_law_1098 ?_
  refine j_callV h (ct_R (fun g0 => q_findLastFrom hE (okI_of (xs (z + 1).toNat)) (okI_of (xs (z + 2).toNat)) (okI_of (xs (z + 3).toNat)))) m_X4_findLastFrom a_l_L_113 rfl rfl ⟨Nat.le_of_ble_eq_true rfl, Nat.le_of_ble_eq_true rfl⟩ (ci := 4) rfl (by omega) rcL4 rfl rfl (Nat.le_of_ble_eq_true rfl) dL_law_1099 ?_
  exact j_rcmp_eq h 2079 dL_law_1102 (by decide) (fun _ => K _) (fun w => absurd rfl w)
theorem dL_law_1107 : decode cL_law 1107 = .ok (.aload_n 1, 1) := by decide +kernel
theorem dL_law_1108 : decode cL_law 1108 = .ok (.aload_n 0, 1) := by decide +kernel
theorem dL_law_1109 : decode cL_law 1109 = .ok (.iload_n 3, 1) := by decide +kernel
theorem dL_law_1110 : decode cL_law 1110 = .ok (.iconst 1, 1) := by decide +kernel
theorem dL_law_1111 : decode cL_law 1111 = .ok (.iadd, 1) := by decide +kernel
theorem dL_law_1112 : decode cL_law 1112 = .ok (.iaload, 1) := by decide +kernel
theorem dL_law_1113 : decode cL_law 1113 = .ok (.aload_n 0, 1) := by decide +kernel
theorem dL_law_1114 : decode cL_law 1114 = .ok (.iload_n 3, 1) := by decide +kernel
theorem dL_law_1115 : decode cL_law 1115 = .ok (.iconst 2, 1) := by decide +kernel
theorem dL_law_1116 : decode cL_law 1116 = .ok (.iadd, 1) := by decide +kernel
theorem dL_law_1117 : decode cL_law 1117 = .ok (.iaload, 1) := by decide +kernel
theorem dL_law_1118 : decode cL_law 1118 = .ok (.invokevirtual 114, 3) := by decide +kernel
theorem dL_law_1121 : decode cL_law 1121 = .ok (.aload_n 2, 1) := by decide +kernel
theorem dL_law_1122 : decode cL_law 1122 = .ok (.aload_n 0, 1) := by decide +kernel
theorem dL_law_1123 : decode cL_law 1123 = .ok (.iload_n 3, 1) := by decide +kernel
theorem dL_law_1124 : decode cL_law 1124 = .ok (.iconst 1, 1) := by decide +kernel
theorem dL_law_1125 : decode cL_law 1125 = .ok (.iadd, 1) := by decide +kernel
theorem dL_law_1126 : decode cL_law 1126 = .ok (.iaload, 1) := by decide +kernel
theorem dL_law_1127 : decode cL_law 1127 = .ok (.aload_n 0, 1) := by decide +kernel
theorem dL_law_1128 : decode cL_law 1128 = .ok (.iload_n 3, 1) := by decide +kernel
theorem dL_law_1129 : decode cL_law 1129 = .ok (.iconst 2, 1) := by decide +kernel
theorem dL_law_1130 : decode cL_law 1130 = .ok (.iadd, 1) := by decide +kernel
theorem dL_law_1131 : decode cL_law 1131 = .ok (.iaload, 1) := by decide +kernel
theorem dL_law_1132 : decode cL_law 1132 = .ok (.invokevirtual 118, 3) := by decide +kernel
theorem dL_law_1135 : decode cL_law 1135 = .ok (.if_icmp .eq 944, 3) := by decide +kernel
set_option maxHeartbeats 400000 in
set_option maxRecDepth 20000 in
theorem law_23 {E : EV} (hE : EOK E) {q v0 : Nat} (hXS : EXS E q v0) {X : TX} {b L : Nat} {xs : Nat → Int32} (h : CX E X cL_law RL ret room_1 4) (hX : LX X b L xs) (hL : L ≤ 3072) {z : Int} (h0 : 0 ≤ z) (h1 : z ≤ L - 6) {A : AS} (K : ∀ A2 : AS, JL E (LQP E) X 2079 [(3, .int (iI z)), (2, eA E 76), (1, eA E 74), (0, .ref b)] [] (A2, A2)) : JL E (LQP E) X 1107 [(3, .int (iI z)), (2, eA E 76), (1, eA E 74), (0, .ref b)] [] (A, A) := by
  refine j_aload_n h 2 dL_law_1107 rfl rfl ?_
  refine j_aload_n h 3 dL_law_1108 rfl rfl ?_
  refine j_iload_n h 0 dL_law_1109 rfl rfl ?_
  refine j_iconst h dL_law_1110 ?_
  refine j_iadd h dL_law_1111 ?_
  refine j_sld h hX hL (by omega) (by omega) dL_law_1112 ?_
  refine j_aload_n h 3 dL_law_1113 rfl rfl ?_
  refine j_iload_n h 0 dL_law_1114 rfl rfl ?_
  refine j_iconst h dL_law_1115 ?_
  refine j_iadd h dL_law_1116 ?_
  refine j_sld h hX hL (by omega) (by omega) dL_law_1117 ?_
  refine j_callV h (ct_L (fun g0 => p_contains hE (okI_of (xs (z + 1).toNat)) (okI_of (xs (z + 2).toNat)))) m_X3_contains a_l_L_114 rfl rfl ⟨Nat.le_of_ble_eq_true rfl, Nat.le_of_ble_eq_true rfl⟩ (ci := 3) rfl (by omega) rcL3 rfl rfl (Nat.le_of_ble_eq_true rfl) dL_law_1118 ?_
  refine j_aload_n h 1 dL_law_1121 rfl rfl ?_
  refine j_aload_n h 3 dL_law_1122 rfl rfl ?_
  refine j_iload_n h 0 dL_law_1123 rfl rfl ?_
  refine j_iconst h dL_law_1124 ?_
  refine j_iadd h dL_law_1125 ?_
  refine j_sld h hX hL (by omega) (by omega) dL_law_1126 ?_
  refine j_aload_n h 3 dL_law_1127 rfl rfl ?_
  refine j_iload_n h 0 dL_law_1128 rfl rfl ?_
  refine j_iconst h dL_law_1129 ?_
  refine j_iadd h dL_law_1130 ?_
  refine j_sld h hX hL (by omega) (by omega) dL_law_1131 ?_
  refine j_callV h (ct_R (fun g0 => q_contains hE (okI_of (xs (z + 1).toNat)) (okI_of (xs (z + 2).toNat)))) m_X4_contains a_l_L_118 rfl rfl ⟨Nat.le_of_ble_eq_true rfl, Nat.le_of_ble_eq_true rfl⟩ (ci := 4) rfl (by omega) rcL4 rfl rfl (Nat.le_of_ble_eq_true rfl) dL_law_1132 ?_
  exact j_rcmp_eq h 2079 dL_law_1135 (by decide) (fun _ => K _) (fun w => absurd rfl w)
theorem dL_law_1140 : decode cL_law 1140 = .ok (.aload_n 1, 1) := by decide +kernel
theorem dL_law_1141 : decode cL_law 1141 = .ok (.aload_n 0, 1) := by decide +kernel
theorem dL_law_1142 : decode cL_law 1142 = .ok (.iload_n 3, 1) := by decide +kernel
theorem dL_law_1143 : decode cL_law 1143 = .ok (.iconst 1, 1) := by decide +kernel
theorem dL_law_1144 : decode cL_law 1144 = .ok (.iadd, 1) := by decide +kernel
theorem dL_law_1145 : decode cL_law 1145 = .ok (.iaload, 1) := by decide +kernel
theorem dL_law_1146 : decode cL_law 1146 = .ok (.aload_n 0, 1) := by decide +kernel
theorem dL_law_1147 : decode cL_law 1147 = .ok (.iload_n 3, 1) := by decide +kernel
theorem dL_law_1148 : decode cL_law 1148 = .ok (.iconst 2, 1) := by decide +kernel
theorem dL_law_1149 : decode cL_law 1149 = .ok (.iadd, 1) := by decide +kernel
theorem dL_law_1150 : decode cL_law 1150 = .ok (.iaload, 1) := by decide +kernel
theorem dL_law_1151 : decode cL_law 1151 = .ok (.invokevirtual 119, 3) := by decide +kernel
theorem dL_law_1154 : decode cL_law 1154 = .ok (.aload_n 2, 1) := by decide +kernel
theorem dL_law_1155 : decode cL_law 1155 = .ok (.aload_n 0, 1) := by decide +kernel
theorem dL_law_1156 : decode cL_law 1156 = .ok (.iload_n 3, 1) := by decide +kernel
theorem dL_law_1157 : decode cL_law 1157 = .ok (.iconst 1, 1) := by decide +kernel
theorem dL_law_1158 : decode cL_law 1158 = .ok (.iadd, 1) := by decide +kernel
theorem dL_law_1159 : decode cL_law 1159 = .ok (.iaload, 1) := by decide +kernel
theorem dL_law_1160 : decode cL_law 1160 = .ok (.aload_n 0, 1) := by decide +kernel
theorem dL_law_1161 : decode cL_law 1161 = .ok (.iload_n 3, 1) := by decide +kernel
theorem dL_law_1162 : decode cL_law 1162 = .ok (.iconst 2, 1) := by decide +kernel
theorem dL_law_1163 : decode cL_law 1163 = .ok (.iadd, 1) := by decide +kernel
theorem dL_law_1164 : decode cL_law 1164 = .ok (.iaload, 1) := by decide +kernel
theorem dL_law_1165 : decode cL_law 1165 = .ok (.invokevirtual 122, 3) := by decide +kernel
theorem dL_law_1168 : decode cL_law 1168 = .ok (.if_icmp .eq 911, 3) := by decide +kernel
set_option maxHeartbeats 400000 in
set_option maxRecDepth 20000 in
theorem law_24 {E : EV} (hE : EOK E) {q v0 : Nat} (hXS : EXS E q v0) {X : TX} {b L : Nat} {xs : Nat → Int32} (h : CX E X cL_law RL ret room_1 4) (hX : LX X b L xs) (hL : L ≤ 3072) {z : Int} (h0 : 0 ≤ z) (h1 : z ≤ L - 6) {A : AS} (K : ∀ A2 : AS, JL E (LQP E) X 2079 [(3, .int (iI z)), (2, eA E 76), (1, eA E 74), (0, .ref b)] [] (A2, A2)) : JL E (LQP E) X 1140 [(3, .int (iI z)), (2, eA E 76), (1, eA E 74), (0, .ref b)] [] (A, A) := by
  refine j_aload_n h 2 dL_law_1140 rfl rfl ?_
  refine j_aload_n h 3 dL_law_1141 rfl rfl ?_
  refine j_iload_n h 0 dL_law_1142 rfl rfl ?_
  refine j_iconst h dL_law_1143 ?_
  refine j_iadd h dL_law_1144 ?_
  refine j_sld h hX hL (by omega) (by omega) dL_law_1145 ?_
  refine j_aload_n h 3 dL_law_1146 rfl rfl ?_
  refine j_iload_n h 0 dL_law_1147 rfl rfl ?_
  refine j_iconst h dL_law_1148 ?_
  refine j_iadd h dL_law_1149 ?_
  refine j_sld h hX hL (by omega) (by omega) dL_law_1150 ?_
  refine j_callV h (ct_L (fun g0 => p_starts hE (okI_of (xs (z + 1).toNat)) (okI_of (xs (z + 2).toNat)))) m_X3_starts a_l_L_119 rfl rfl ⟨Nat.le_of_ble_eq_true rfl, Nat.le_of_ble_eq_true rfl⟩ (ci := 3) rfl (by omega) rcL3 rfl rfl (Nat.le_of_ble_eq_true rfl) dL_law_1151 ?_
  refine j_aload_n h 1 dL_law_1154 rfl rfl ?_
  refine j_aload_n h 3 dL_law_1155 rfl rfl ?_
  refine j_iload_n h 0 dL_law_1156 rfl rfl ?_
  refine j_iconst h dL_law_1157 ?_
  refine j_iadd h dL_law_1158 ?_
  refine j_sld h hX hL (by omega) (by omega) dL_law_1159 ?_
  refine j_aload_n h 3 dL_law_1160 rfl rfl ?_
  refine j_iload_n h 0 dL_law_1161 rfl rfl ?_
  refine j_iconst h dL_law_1162 ?_
  refine j_iadd h dL_law_1163 ?_
  refine j_sld h hX hL (by omega) (by omega) dL_law_1164 ?_
  refine j_callV h (ct_R (fun g0 => q_starts hE (okI_of (xs (z + 1).toNat)) (okI_of (xs (z + 2).toNat)))) m_X4_starts a_l_L_122 rfl rfl ⟨Nat.le_of_ble_eq_true rfl, Nat.le_of_ble_eq_true rfl⟩ (ci := 4) rfl (by omega) rcL4 rfl rfl (Nat.le_of_ble_eq_true rfl) dL_law_1165 ?_
  exact j_rcmp_eq h 2079 dL_law_1168 (by decide) (fun _ => K _) (fun w => absurd rfl w)
theorem dL_law_1173 : decode cL_law 1173 = .ok (.aload_n 1, 1) := by decide +kernel
theorem dL_law_1174 : decode cL_law 1174 = .ok (.aload_n 0, 1) := by decide +kernel
theorem dL_law_1175 : decode cL_law 1175 = .ok (.iload_n 3, 1) := by decide +kernel
theorem dL_law_1176 : decode cL_law 1176 = .ok (.iconst 1, 1) := by decide +kernel
theorem dL_law_1177 : decode cL_law 1177 = .ok (.iadd, 1) := by decide +kernel
theorem dL_law_1178 : decode cL_law 1178 = .ok (.iaload, 1) := by decide +kernel
theorem dL_law_1179 : decode cL_law 1179 = .ok (.aload_n 0, 1) := by decide +kernel
theorem dL_law_1180 : decode cL_law 1180 = .ok (.iload_n 3, 1) := by decide +kernel
theorem dL_law_1181 : decode cL_law 1181 = .ok (.iconst 2, 1) := by decide +kernel
theorem dL_law_1182 : decode cL_law 1182 = .ok (.iadd, 1) := by decide +kernel
theorem dL_law_1183 : decode cL_law 1183 = .ok (.iaload, 1) := by decide +kernel
theorem dL_law_1184 : decode cL_law 1184 = .ok (.aload_n 0, 1) := by decide +kernel
theorem dL_law_1185 : decode cL_law 1185 = .ok (.iload_n 3, 1) := by decide +kernel
theorem dL_law_1186 : decode cL_law 1186 = .ok (.iconst 3, 1) := by decide +kernel
theorem dL_law_1187 : decode cL_law 1187 = .ok (.iadd, 1) := by decide +kernel
theorem dL_law_1188 : decode cL_law 1188 = .ok (.iaload, 1) := by decide +kernel
theorem dL_law_1189 : decode cL_law 1189 = .ok (.invokevirtual 123, 3) := by decide +kernel
theorem dL_law_1192 : decode cL_law 1192 = .ok (.aload_n 2, 1) := by decide +kernel
theorem dL_law_1193 : decode cL_law 1193 = .ok (.aload_n 0, 1) := by decide +kernel
theorem dL_law_1194 : decode cL_law 1194 = .ok (.iload_n 3, 1) := by decide +kernel
theorem dL_law_1195 : decode cL_law 1195 = .ok (.iconst 1, 1) := by decide +kernel
theorem dL_law_1196 : decode cL_law 1196 = .ok (.iadd, 1) := by decide +kernel
theorem dL_law_1197 : decode cL_law 1197 = .ok (.iaload, 1) := by decide +kernel
theorem dL_law_1198 : decode cL_law 1198 = .ok (.aload_n 0, 1) := by decide +kernel
theorem dL_law_1199 : decode cL_law 1199 = .ok (.iload_n 3, 1) := by decide +kernel
theorem dL_law_1200 : decode cL_law 1200 = .ok (.iconst 2, 1) := by decide +kernel
theorem dL_law_1201 : decode cL_law 1201 = .ok (.iadd, 1) := by decide +kernel
theorem dL_law_1202 : decode cL_law 1202 = .ok (.iaload, 1) := by decide +kernel
theorem dL_law_1203 : decode cL_law 1203 = .ok (.aload_n 0, 1) := by decide +kernel
theorem dL_law_1204 : decode cL_law 1204 = .ok (.iload_n 3, 1) := by decide +kernel
theorem dL_law_1205 : decode cL_law 1205 = .ok (.iconst 3, 1) := by decide +kernel
theorem dL_law_1206 : decode cL_law 1206 = .ok (.iadd, 1) := by decide +kernel
theorem dL_law_1207 : decode cL_law 1207 = .ok (.iaload, 1) := by decide +kernel
theorem dL_law_1208 : decode cL_law 1208 = .ok (.invokevirtual 127, 3) := by decide +kernel
theorem dL_law_1211 : decode cL_law 1211 = .ok (.if_icmp .eq 868, 3) := by decide +kernel
set_option maxHeartbeats 400000 in
set_option maxRecDepth 20000 in
theorem law_25 {E : EV} (hE : EOK E) {q v0 : Nat} (hXS : EXS E q v0) {X : TX} {b L : Nat} {xs : Nat → Int32} (h : CX E X cL_law RL ret room_1 4) (hX : LX X b L xs) (hL : L ≤ 3072) {z : Int} (h0 : 0 ≤ z) (h1 : z ≤ L - 6) {A : AS} (K : ∀ A2 : AS, JL E (LQP E) X 2079 [(3, .int (iI z)), (2, eA E 76), (1, eA E 74), (0, .ref b)] [] (A2, A2)) : JL E (LQP E) X 1173 [(3, .int (iI z)), (2, eA E 76), (1, eA E 74), (0, .ref b)] [] (A, A) := by
  refine j_aload_n h 2 dL_law_1173 rfl rfl ?_
  refine j_aload_n h 3 dL_law_1174 rfl rfl ?_
  refine j_iload_n h 0 dL_law_1175 rfl rfl ?_
  refine j_iconst h dL_law_1176 ?_
  refine j_iadd h dL_law_1177 ?_
  refine j_sld h hX hL (by omega) (by omega) dL_law_1178 ?_
  refine j_aload_n h 3 dL_law_1179 rfl rfl ?_
  refine j_iload_n h 0 dL_law_1180 rfl rfl ?_
  refine j_iconst h dL_law_1181 ?_
  refine j_iadd h dL_law_1182 ?_
  refine j_sld h hX hL (by omega) (by omega) dL_law_1183 ?_
  refine j_aload_n h 3 dL_law_1184 rfl rfl ?_
  refine j_iload_n h 0 dL_law_1185 rfl rfl ?_
  refine j_iconst h dL_law_1186 ?_
  refine j_iadd h dL_law_1187 ?_
  refine j_sld h hX hL (by omega) (by omega) dL_law_1188 ?_
  refine j_callV h (ct_L (fun g0 => p_startsAt hE (okI_of (xs (z + 1).toNat)) (okI_of (xs (z + 2).toNat)) (okI_of (xs (z + 3).toNat)))) m_X3_startsAt a_l_L_123 rfl rfl ⟨Nat.le_of_ble_eq_true rfl, Nat.le_of_ble_eq_true rfl⟩ (ci := 3) rfl (by omega) rcL3 rfl rfl (Nat.le_of_ble_eq_true rfl) dL_law_1189 ?_
  refine j_aload_n h 1 dL_law_1192 rfl rfl ?_
  refine j_aload_n h 3 dL_law_1193 rfl rfl ?_
  refine j_iload_n h 0 dL_law_1194 rfl rfl ?_
  refine j_iconst h dL_law_1195 ?_
  refine j_iadd h dL_law_1196 ?_
  refine j_sld h hX hL (by omega) (by omega) dL_law_1197 ?_
  refine j_aload_n h 3 dL_law_1198 rfl rfl ?_
  refine j_iload_n h 0 dL_law_1199 rfl rfl ?_
  refine j_iconst h dL_law_1200 ?_
  refine j_iadd h dL_law_1201 ?_
  refine j_sld h hX hL (by omega) (by omega) dL_law_1202 ?_
  refine j_aload_n h 3 dL_law_1203 rfl rfl ?_
  refine j_iload_n h 0 dL_law_1204 rfl rfl ?_
  refine j_iconst h dL_law_1205 ?_
  refine j_iadd h dL_law_1206 ?_
  refine j_sld h hX hL (by omega) (by omega) dL_law_1207 ?_
  refine j_callV h (ct_R (fun g0 => q_startsAt hE (okI_of (xs (z + 1).toNat)) (okI_of (xs (z + 2).toNat)) (okI_of (xs (z + 3).toNat)))) m_X4_startsAt a_l_L_127 rfl rfl ⟨Nat.le_of_ble_eq_true rfl, Nat.le_of_ble_eq_true rfl⟩ (ci := 4) rfl (by omega) rcL4 rfl rfl (Nat.le_of_ble_eq_true rfl) dL_law_1208 ?_
  exact j_rcmp_eq h 2079 dL_law_1211 (by decide) (fun _ => K _) (fun w => absurd rfl w)
theorem dL_law_1216 : decode cL_law 1216 = .ok (.aload_n 1, 1) := by decide +kernel
theorem dL_law_1217 : decode cL_law 1217 = .ok (.aload_n 0, 1) := by decide +kernel
theorem dL_law_1218 : decode cL_law 1218 = .ok (.iload_n 3, 1) := by decide +kernel
theorem dL_law_1219 : decode cL_law 1219 = .ok (.iconst 1, 1) := by decide +kernel
theorem dL_law_1220 : decode cL_law 1220 = .ok (.iadd, 1) := by decide +kernel
theorem dL_law_1221 : decode cL_law 1221 = .ok (.iaload, 1) := by decide +kernel
theorem dL_law_1222 : decode cL_law 1222 = .ok (.aload_n 0, 1) := by decide +kernel
theorem dL_law_1223 : decode cL_law 1223 = .ok (.iload_n 3, 1) := by decide +kernel
theorem dL_law_1224 : decode cL_law 1224 = .ok (.iconst 2, 1) := by decide +kernel
theorem dL_law_1225 : decode cL_law 1225 = .ok (.iadd, 1) := by decide +kernel
theorem dL_law_1226 : decode cL_law 1226 = .ok (.iaload, 1) := by decide +kernel
theorem dL_law_1227 : decode cL_law 1227 = .ok (.invokevirtual 128, 3) := by decide +kernel
theorem dL_law_1230 : decode cL_law 1230 = .ok (.aload_n 2, 1) := by decide +kernel
theorem dL_law_1231 : decode cL_law 1231 = .ok (.aload_n 0, 1) := by decide +kernel
theorem dL_law_1232 : decode cL_law 1232 = .ok (.iload_n 3, 1) := by decide +kernel
theorem dL_law_1233 : decode cL_law 1233 = .ok (.iconst 1, 1) := by decide +kernel
theorem dL_law_1234 : decode cL_law 1234 = .ok (.iadd, 1) := by decide +kernel
theorem dL_law_1235 : decode cL_law 1235 = .ok (.iaload, 1) := by decide +kernel
theorem dL_law_1236 : decode cL_law 1236 = .ok (.aload_n 0, 1) := by decide +kernel
theorem dL_law_1237 : decode cL_law 1237 = .ok (.iload_n 3, 1) := by decide +kernel
theorem dL_law_1238 : decode cL_law 1238 = .ok (.iconst 2, 1) := by decide +kernel
theorem dL_law_1239 : decode cL_law 1239 = .ok (.iadd, 1) := by decide +kernel
theorem dL_law_1240 : decode cL_law 1240 = .ok (.iaload, 1) := by decide +kernel
theorem dL_law_1241 : decode cL_law 1241 = .ok (.invokevirtual 131, 3) := by decide +kernel
theorem dL_law_1244 : decode cL_law 1244 = .ok (.if_icmp .eq 835, 3) := by decide +kernel
set_option maxHeartbeats 400000 in
set_option maxRecDepth 20000 in
theorem law_26 {E : EV} (hE : EOK E) {q v0 : Nat} (hXS : EXS E q v0) {X : TX} {b L : Nat} {xs : Nat → Int32} (h : CX E X cL_law RL ret room_1 4) (hX : LX X b L xs) (hL : L ≤ 3072) {z : Int} (h0 : 0 ≤ z) (h1 : z ≤ L - 6) {A : AS} (K : ∀ A2 : AS, JL E (LQP E) X 2079 [(3, .int (iI z)), (2, eA E 76), (1, eA E 74), (0, .ref b)] [] (A2, A2)) : JL E (LQP E) X 1216 [(3, .int (iI z)), (2, eA E 76), (1, eA E 74), (0, .ref b)] [] (A, A) := by
  refine j_aload_n h 2 dL_law_1216 rfl rfl ?_
  refine j_aload_n h 3 dL_law_1217 rfl rfl ?_
  refine j_iload_n h 0 dL_law_1218 rfl rfl ?_
  refine j_iconst h dL_law_1219 ?_
  refine j_iadd h dL_law_1220 ?_
  refine j_sld h hX hL (by omega) (by omega) dL_law_1221 ?_
  refine j_aload_n h 3 dL_law_1222 rfl rfl ?_
  refine j_iload_n h 0 dL_law_1223 rfl rfl ?_
  refine j_iconst h dL_law_1224 ?_
  refine j_iadd h dL_law_1225 ?_
  refine j_sld h hX hL (by omega) (by omega) dL_law_1226 ?_
  refine j_callV h (ct_L (fun g0 => p_ends hE (okI_of (xs (z + 1).toNat)) (okI_of (xs (z + 2).toNat)))) m_X3_ends a_l_L_128 rfl rfl ⟨Nat.le_of_ble_eq_true rfl, Nat.le_of_ble_eq_true rfl⟩ (ci := 3) rfl (by omega) rcL3 rfl rfl (Nat.le_of_ble_eq_true rfl) dL_law_1227 ?_
  refine j_aload_n h 1 dL_law_1230 rfl rfl ?_
  refine j_aload_n h 3 dL_law_1231 rfl rfl ?_
  refine j_iload_n h 0 dL_law_1232 rfl rfl ?_
  refine j_iconst h dL_law_1233 ?_
  refine j_iadd h dL_law_1234 ?_
  refine j_sld h hX hL (by omega) (by omega) dL_law_1235 ?_
  refine j_aload_n h 3 dL_law_1236 rfl rfl ?_
  refine j_iload_n h 0 dL_law_1237 rfl rfl ?_
  refine j_iconst h dL_law_1238 ?_
  refine j_iadd h dL_law_1239 ?_
  refine j_sld h hX hL (by omega) (by omega) dL_law_1240 ?_
  refine j_callV h (ct_R (fun g0 => q_ends hE (okI_of (xs (z + 1).toNat)) (okI_of (xs (z + 2).toNat)))) m_X4_ends a_l_L_131 rfl rfl ⟨Nat.le_of_ble_eq_true rfl, Nat.le_of_ble_eq_true rfl⟩ (ci := 4) rfl (by omega) rcL4 rfl rfl (Nat.le_of_ble_eq_true rfl) dL_law_1241 ?_
  exact j_rcmp_eq h 2079 dL_law_1244 (by decide) (fun _ => K _) (fun w => absurd rfl w)
theorem dL_law_1249 : decode cL_law 1249 = .ok (.aload_n 1, 1) := by decide +kernel
theorem dL_law_1250 : decode cL_law 1250 = .ok (.aload_n 0, 1) := by decide +kernel
theorem dL_law_1251 : decode cL_law 1251 = .ok (.iload_n 3, 1) := by decide +kernel
theorem dL_law_1252 : decode cL_law 1252 = .ok (.iconst 1, 1) := by decide +kernel
theorem dL_law_1253 : decode cL_law 1253 = .ok (.iadd, 1) := by decide +kernel
theorem dL_law_1254 : decode cL_law 1254 = .ok (.iaload, 1) := by decide +kernel
theorem dL_law_1255 : decode cL_law 1255 = .ok (.aload_n 0, 1) := by decide +kernel
theorem dL_law_1256 : decode cL_law 1256 = .ok (.iload_n 3, 1) := by decide +kernel
theorem dL_law_1257 : decode cL_law 1257 = .ok (.iconst 2, 1) := by decide +kernel
theorem dL_law_1258 : decode cL_law 1258 = .ok (.iadd, 1) := by decide +kernel
theorem dL_law_1259 : decode cL_law 1259 = .ok (.iaload, 1) := by decide +kernel
theorem dL_law_1260 : decode cL_law 1260 = .ok (.aload_n 0, 1) := by decide +kernel
theorem dL_law_1261 : decode cL_law 1261 = .ok (.iload_n 3, 1) := by decide +kernel
theorem dL_law_1262 : decode cL_law 1262 = .ok (.iconst 3, 1) := by decide +kernel
theorem dL_law_1263 : decode cL_law 1263 = .ok (.iadd, 1) := by decide +kernel
theorem dL_law_1264 : decode cL_law 1264 = .ok (.iaload, 1) := by decide +kernel
theorem dL_law_1265 : decode cL_law 1265 = .ok (.aload_n 0, 1) := by decide +kernel
theorem dL_law_1266 : decode cL_law 1266 = .ok (.iload_n 3, 1) := by decide +kernel
theorem dL_law_1267 : decode cL_law 1267 = .ok (.iconst 4, 1) := by decide +kernel
theorem dL_law_1268 : decode cL_law 1268 = .ok (.iadd, 1) := by decide +kernel
theorem dL_law_1269 : decode cL_law 1269 = .ok (.iaload, 1) := by decide +kernel
theorem dL_law_1270 : decode cL_law 1270 = .ok (.aload_n 0, 1) := by decide +kernel
theorem dL_law_1271 : decode cL_law 1271 = .ok (.iload_n 3, 1) := by decide +kernel
theorem dL_law_1272 : decode cL_law 1272 = .ok (.iconst 5, 1) := by decide +kernel
theorem dL_law_1273 : decode cL_law 1273 = .ok (.iadd, 1) := by decide +kernel
theorem dL_law_1274 : decode cL_law 1274 = .ok (.iaload, 1) := by decide +kernel
theorem dL_law_1275 : decode cL_law 1275 = .ok (.invokevirtual 132, 3) := by decide +kernel
theorem dL_law_1278 : decode cL_law 1278 = .ok (.aload_n 2, 1) := by decide +kernel
theorem dL_law_1279 : decode cL_law 1279 = .ok (.aload_n 0, 1) := by decide +kernel
theorem dL_law_1280 : decode cL_law 1280 = .ok (.iload_n 3, 1) := by decide +kernel
theorem dL_law_1281 : decode cL_law 1281 = .ok (.iconst 1, 1) := by decide +kernel
theorem dL_law_1282 : decode cL_law 1282 = .ok (.iadd, 1) := by decide +kernel
theorem dL_law_1283 : decode cL_law 1283 = .ok (.iaload, 1) := by decide +kernel
theorem dL_law_1284 : decode cL_law 1284 = .ok (.aload_n 0, 1) := by decide +kernel
theorem dL_law_1285 : decode cL_law 1285 = .ok (.iload_n 3, 1) := by decide +kernel
theorem dL_law_1286 : decode cL_law 1286 = .ok (.iconst 2, 1) := by decide +kernel
theorem dL_law_1287 : decode cL_law 1287 = .ok (.iadd, 1) := by decide +kernel
theorem dL_law_1288 : decode cL_law 1288 = .ok (.iaload, 1) := by decide +kernel
theorem dL_law_1289 : decode cL_law 1289 = .ok (.aload_n 0, 1) := by decide +kernel
theorem dL_law_1290 : decode cL_law 1290 = .ok (.iload_n 3, 1) := by decide +kernel
theorem dL_law_1291 : decode cL_law 1291 = .ok (.iconst 3, 1) := by decide +kernel
theorem dL_law_1292 : decode cL_law 1292 = .ok (.iadd, 1) := by decide +kernel
theorem dL_law_1293 : decode cL_law 1293 = .ok (.iaload, 1) := by decide +kernel
theorem dL_law_1294 : decode cL_law 1294 = .ok (.aload_n 0, 1) := by decide +kernel
theorem dL_law_1295 : decode cL_law 1295 = .ok (.iload_n 3, 1) := by decide +kernel
theorem dL_law_1296 : decode cL_law 1296 = .ok (.iconst 4, 1) := by decide +kernel
theorem dL_law_1297 : decode cL_law 1297 = .ok (.iadd, 1) := by decide +kernel
theorem dL_law_1298 : decode cL_law 1298 = .ok (.iaload, 1) := by decide +kernel
theorem dL_law_1299 : decode cL_law 1299 = .ok (.aload_n 0, 1) := by decide +kernel
theorem dL_law_1300 : decode cL_law 1300 = .ok (.iload_n 3, 1) := by decide +kernel
theorem dL_law_1301 : decode cL_law 1301 = .ok (.iconst 5, 1) := by decide +kernel
theorem dL_law_1302 : decode cL_law 1302 = .ok (.iadd, 1) := by decide +kernel
theorem dL_law_1303 : decode cL_law 1303 = .ok (.iaload, 1) := by decide +kernel
theorem dL_law_1304 : decode cL_law 1304 = .ok (.invokevirtual 136, 3) := by decide +kernel
theorem dL_law_1307 : decode cL_law 1307 = .ok (.if_icmp .eq 772, 3) := by decide +kernel
set_option maxHeartbeats 400000 in
set_option maxRecDepth 20000 in
theorem law_27 {E : EV} (hE : EOK E) {q v0 : Nat} (hXS : EXS E q v0) {X : TX} {b L : Nat} {xs : Nat → Int32} (h : CX E X cL_law RL ret room_1 4) (hX : LX X b L xs) (hL : L ≤ 3072) {z : Int} (h0 : 0 ≤ z) (h1 : z ≤ L - 6) {A : AS} (K : ∀ A2 : AS, JL E (LQP E) X 2079 [(3, .int (iI z)), (2, eA E 76), (1, eA E 74), (0, .ref b)] [] (A2, A2)) : JL E (LQP E) X 1249 [(3, .int (iI z)), (2, eA E 76), (1, eA E 74), (0, .ref b)] [] (A, A) := by
  refine j_aload_n h 2 dL_law_1249 rfl rfl ?_
  refine j_aload_n h 3 dL_law_1250 rfl rfl ?_
  refine j_iload_n h 0 dL_law_1251 rfl rfl ?_
  refine j_iconst h dL_law_1252 ?_
  refine j_iadd h dL_law_1253 ?_
  refine j_sld h hX hL (by omega) (by omega) dL_law_1254 ?_
  refine j_aload_n h 3 dL_law_1255 rfl rfl ?_
  refine j_iload_n h 0 dL_law_1256 rfl rfl ?_
  refine j_iconst h dL_law_1257 ?_
  refine j_iadd h dL_law_1258 ?_
  refine j_sld h hX hL (by omega) (by omega) dL_law_1259 ?_
  refine j_aload_n h 3 dL_law_1260 rfl rfl ?_
  refine j_iload_n h 0 dL_law_1261 rfl rfl ?_
  refine j_iconst h dL_law_1262 ?_
  refine j_iadd h dL_law_1263 ?_
  refine j_sld h hX hL (by omega) (by omega) dL_law_1264 ?_
  refine j_aload_n h 3 dL_law_1265 rfl rfl ?_
  refine j_iload_n h 0 dL_law_1266 rfl rfl ?_
  refine j_iconst h dL_law_1267 ?_
  refine j_iadd h dL_law_1268 ?_
  refine j_sld h hX hL (by omega) (by omega) dL_law_1269 ?_
  refine j_aload_n h 3 dL_law_1270 rfl rfl ?_
  refine j_iload_n h 0 dL_law_1271 rfl rfl ?_
  refine j_iconst h dL_law_1272 ?_
  refine j_iadd h dL_law_1273 ?_
  refine j_sld h hX hL (by omega) (by omega) dL_law_1274 ?_
  refine j_callV h (ct_L (fun g0 => p_region hE (okI_of (xs (z + 1).toNat)) (okI_of (xs (z + 2).toNat)) (okI_of (xs (z + 3).toNat)) (okI_of (xs (z + 4).toNat)) (okI_of (xs (z + 5).toNat)))) m_X3_region a_l_L_132 rfl rfl ⟨Nat.le_of_ble_eq_true rfl, Nat.le_of_ble_eq_true rfl⟩ (ci := 3) rfl (by omega) rcL3 rfl rfl (Nat.le_of_ble_eq_true rfl) dL_law_1275 ?_
  refine j_aload_n h 1 dL_law_1278 rfl rfl ?_
  refine j_aload_n h 3 dL_law_1279 rfl rfl ?_
  refine j_iload_n h 0 dL_law_1280 rfl rfl ?_
  refine j_iconst h dL_law_1281 ?_
  refine j_iadd h dL_law_1282 ?_
  refine j_sld h hX hL (by omega) (by omega) dL_law_1283 ?_
  refine j_aload_n h 3 dL_law_1284 rfl rfl ?_
  refine j_iload_n h 0 dL_law_1285 rfl rfl ?_
  refine j_iconst h dL_law_1286 ?_
  refine j_iadd h dL_law_1287 ?_
  refine j_sld h hX hL (by omega) (by omega) dL_law_1288 ?_
  refine j_aload_n h 3 dL_law_1289 rfl rfl ?_
  refine j_iload_n h 0 dL_law_1290 rfl rfl ?_
  refine j_iconst h dL_law_1291 ?_
  refine j_iadd h dL_law_1292 ?_
  refine j_sld h hX hL (by omega) (by omega) dL_law_1293 ?_
  refine j_aload_n h 3 dL_law_1294 rfl rfl ?_
  refine j_iload_n h 0 dL_law_1295 rfl rfl ?_
  refine j_iconst h dL_law_1296 ?_
  refine j_iadd h dL_law_1297 ?_
  refine j_sld h hX hL (by omega) (by omega) dL_law_1298 ?_
  refine j_aload_n h 3 dL_law_1299 rfl rfl ?_
  refine j_iload_n h 0 dL_law_1300 rfl rfl ?_
  refine j_iconst h dL_law_1301 ?_
  refine j_iadd h dL_law_1302 ?_
  refine j_sld h hX hL (by omega) (by omega) dL_law_1303 ?_
  refine j_callV h (ct_R (fun g0 => q_region hE (okI_of (xs (z + 1).toNat)) (okI_of (xs (z + 2).toNat)) (okI_of (xs (z + 3).toNat)) (okI_of (xs (z + 4).toNat)) (okI_of (xs (z + 5).toNat)))) m_X4_region a_l_L_136 rfl rfl ⟨Nat.le_of_ble_eq_true rfl, Nat.le_of_ble_eq_true rfl⟩ (ci := 4) rfl (by omega) rcL4 rfl rfl (Nat.le_of_ble_eq_true rfl) dL_law_1304 ?_
  exact j_rcmp_eq h 2079 dL_law_1307 (by decide) (fun _ => K _) (fun w => absurd rfl w)
theorem dL_law_1312 : decode cL_law 1312 = .ok (.aload_n 1, 1) := by decide +kernel
theorem dL_law_1313 : decode cL_law 1313 = .ok (.aload_n 0, 1) := by decide +kernel
theorem dL_law_1314 : decode cL_law 1314 = .ok (.iload_n 3, 1) := by decide +kernel
theorem dL_law_1315 : decode cL_law 1315 = .ok (.iconst 1, 1) := by decide +kernel
theorem dL_law_1316 : decode cL_law 1316 = .ok (.iadd, 1) := by decide +kernel
theorem dL_law_1317 : decode cL_law 1317 = .ok (.iaload, 1) := by decide +kernel
theorem dL_law_1318 : decode cL_law 1318 = .ok (.aload_n 0, 1) := by decide +kernel
theorem dL_law_1319 : decode cL_law 1319 = .ok (.iload_n 3, 1) := by decide +kernel
theorem dL_law_1320 : decode cL_law 1320 = .ok (.iconst 2, 1) := by decide +kernel
theorem dL_law_1321 : decode cL_law 1321 = .ok (.iadd, 1) := by decide +kernel
theorem dL_law_1322 : decode cL_law 1322 = .ok (.iaload, 1) := by decide +kernel
theorem dL_law_1323 : decode cL_law 1323 = .ok (.aload_n 0, 1) := by decide +kernel
theorem dL_law_1324 : decode cL_law 1324 = .ok (.iload_n 3, 1) := by decide +kernel
theorem dL_law_1325 : decode cL_law 1325 = .ok (.iconst 3, 1) := by decide +kernel
theorem dL_law_1326 : decode cL_law 1326 = .ok (.iadd, 1) := by decide +kernel
theorem dL_law_1327 : decode cL_law 1327 = .ok (.iaload, 1) := by decide +kernel
theorem dL_law_1328 : decode cL_law 1328 = .ok (.aload_n 0, 1) := by decide +kernel
theorem dL_law_1329 : decode cL_law 1329 = .ok (.iload_n 3, 1) := by decide +kernel
theorem dL_law_1330 : decode cL_law 1330 = .ok (.iconst 4, 1) := by decide +kernel
theorem dL_law_1331 : decode cL_law 1331 = .ok (.iadd, 1) := by decide +kernel
theorem dL_law_1332 : decode cL_law 1332 = .ok (.iaload, 1) := by decide +kernel
theorem dL_law_1333 : decode cL_law 1333 = .ok (.aload_n 0, 1) := by decide +kernel
theorem dL_law_1334 : decode cL_law 1334 = .ok (.iload_n 3, 1) := by decide +kernel
theorem dL_law_1335 : decode cL_law 1335 = .ok (.iconst 5, 1) := by decide +kernel
theorem dL_law_1336 : decode cL_law 1336 = .ok (.iadd, 1) := by decide +kernel
theorem dL_law_1337 : decode cL_law 1337 = .ok (.iaload, 1) := by decide +kernel
theorem dL_law_1338 : decode cL_law 1338 = .ok (.invokevirtual 137, 3) := by decide +kernel
theorem dL_law_1341 : decode cL_law 1341 = .ok (.aload_n 2, 1) := by decide +kernel
theorem dL_law_1342 : decode cL_law 1342 = .ok (.aload_n 0, 1) := by decide +kernel
theorem dL_law_1343 : decode cL_law 1343 = .ok (.iload_n 3, 1) := by decide +kernel
theorem dL_law_1344 : decode cL_law 1344 = .ok (.iconst 1, 1) := by decide +kernel
theorem dL_law_1345 : decode cL_law 1345 = .ok (.iadd, 1) := by decide +kernel
theorem dL_law_1346 : decode cL_law 1346 = .ok (.iaload, 1) := by decide +kernel
theorem dL_law_1347 : decode cL_law 1347 = .ok (.aload_n 0, 1) := by decide +kernel
theorem dL_law_1348 : decode cL_law 1348 = .ok (.iload_n 3, 1) := by decide +kernel
theorem dL_law_1349 : decode cL_law 1349 = .ok (.iconst 2, 1) := by decide +kernel
theorem dL_law_1350 : decode cL_law 1350 = .ok (.iadd, 1) := by decide +kernel
theorem dL_law_1351 : decode cL_law 1351 = .ok (.iaload, 1) := by decide +kernel
theorem dL_law_1352 : decode cL_law 1352 = .ok (.aload_n 0, 1) := by decide +kernel
theorem dL_law_1353 : decode cL_law 1353 = .ok (.iload_n 3, 1) := by decide +kernel
theorem dL_law_1354 : decode cL_law 1354 = .ok (.iconst 3, 1) := by decide +kernel
theorem dL_law_1355 : decode cL_law 1355 = .ok (.iadd, 1) := by decide +kernel
theorem dL_law_1356 : decode cL_law 1356 = .ok (.iaload, 1) := by decide +kernel
theorem dL_law_1357 : decode cL_law 1357 = .ok (.aload_n 0, 1) := by decide +kernel
theorem dL_law_1358 : decode cL_law 1358 = .ok (.iload_n 3, 1) := by decide +kernel
theorem dL_law_1359 : decode cL_law 1359 = .ok (.iconst 4, 1) := by decide +kernel
theorem dL_law_1360 : decode cL_law 1360 = .ok (.iadd, 1) := by decide +kernel
theorem dL_law_1361 : decode cL_law 1361 = .ok (.iaload, 1) := by decide +kernel
theorem dL_law_1362 : decode cL_law 1362 = .ok (.aload_n 0, 1) := by decide +kernel
theorem dL_law_1363 : decode cL_law 1363 = .ok (.iload_n 3, 1) := by decide +kernel
theorem dL_law_1364 : decode cL_law 1364 = .ok (.iconst 5, 1) := by decide +kernel
theorem dL_law_1365 : decode cL_law 1365 = .ok (.iadd, 1) := by decide +kernel
theorem dL_law_1366 : decode cL_law 1366 = .ok (.iaload, 1) := by decide +kernel
theorem dL_law_1367 : decode cL_law 1367 = .ok (.invokevirtual 140, 3) := by decide +kernel
theorem dL_law_1370 : decode cL_law 1370 = .ok (.if_icmp .eq 709, 3) := by decide +kernel
set_option maxHeartbeats 400000 in
set_option maxRecDepth 20000 in
theorem law_28 {E : EV} (hE : EOK E) {q v0 : Nat} (hXS : EXS E q v0) {X : TX} {b L : Nat} {xs : Nat → Int32} (h : CX E X cL_law RL ret room_1 4) (hX : LX X b L xs) (hL : L ≤ 3072) {z : Int} (h0 : 0 ≤ z) (h1 : z ≤ L - 6) {A : AS} (K : ∀ A2 : AS, JL E (LQP E) X 2079 [(3, .int (iI z)), (2, eA E 76), (1, eA E 74), (0, .ref b)] [] (A2, A2)) : JL E (LQP E) X 1312 [(3, .int (iI z)), (2, eA E 76), (1, eA E 74), (0, .ref b)] [] (A, A) := by
  refine j_aload_n h 2 dL_law_1312 rfl rfl ?_
  refine j_aload_n h 3 dL_law_1313 rfl rfl ?_
  refine j_iload_n h 0 dL_law_1314 rfl rfl ?_
  refine j_iconst h dL_law_1315 ?_
  refine j_iadd h dL_law_1316 ?_
  refine j_sld h hX hL (by omega) (by omega) dL_law_1317 ?_
  refine j_aload_n h 3 dL_law_1318 rfl rfl ?_
  refine j_iload_n h 0 dL_law_1319 rfl rfl ?_
  refine j_iconst h dL_law_1320 ?_
  refine j_iadd h dL_law_1321 ?_
  refine j_sld h hX hL (by omega) (by omega) dL_law_1322 ?_
  refine j_aload_n h 3 dL_law_1323 rfl rfl ?_
  refine j_iload_n h 0 dL_law_1324 rfl rfl ?_
  refine j_iconst h dL_law_1325 ?_
  refine j_iadd h dL_law_1326 ?_
  refine j_sld h hX hL (by omega) (by omega) dL_law_1327 ?_
  refine j_aload_n h 3 dL_law_1328 rfl rfl ?_
  refine j_iload_n h 0 dL_law_1329 rfl rfl ?_
  refine j_iconst h dL_law_1330 ?_
  refine j_iadd h dL_law_1331 ?_
  refine j_sld h hX hL (by omega) (by omega) dL_law_1332 ?_
  refine j_aload_n h 3 dL_law_1333 rfl rfl ?_
  refine j_iload_n h 0 dL_law_1334 rfl rfl ?_
  refine j_iconst h dL_law_1335 ?_
  refine j_iadd h dL_law_1336 ?_
  refine j_sld h hX hL (by omega) (by omega) dL_law_1337 ?_
  refine j_callV h (ct_L (fun g0 => p_regionAlike hE (okI_of (xs (z + 1).toNat)) (okI_of (xs (z + 2).toNat)) (okI_of (xs (z + 3).toNat)) (okI_of (xs (z + 4).toNat)) (okI_of (xs (z + 5).toNat)))) m_X3_regionAlike a_l_L_137 rfl rfl ⟨Nat.le_of_ble_eq_true rfl, Nat.le_of_ble_eq_true rfl⟩ (ci := 3) rfl (by omega) rcL3 rfl rfl (Nat.le_of_ble_eq_true rfl) dL_law_1338 ?_
  refine j_aload_n h 1 dL_law_1341 rfl rfl ?_
  refine j_aload_n h 3 dL_law_1342 rfl rfl ?_
  refine j_iload_n h 0 dL_law_1343 rfl rfl ?_
  refine j_iconst h dL_law_1344 ?_
  refine j_iadd h dL_law_1345 ?_
  refine j_sld h hX hL (by omega) (by omega) dL_law_1346 ?_
  refine j_aload_n h 3 dL_law_1347 rfl rfl ?_
  refine j_iload_n h 0 dL_law_1348 rfl rfl ?_
  refine j_iconst h dL_law_1349 ?_
  refine j_iadd h dL_law_1350 ?_
  refine j_sld h hX hL (by omega) (by omega) dL_law_1351 ?_
  refine j_aload_n h 3 dL_law_1352 rfl rfl ?_
  refine j_iload_n h 0 dL_law_1353 rfl rfl ?_
  refine j_iconst h dL_law_1354 ?_
  refine j_iadd h dL_law_1355 ?_
  refine j_sld h hX hL (by omega) (by omega) dL_law_1356 ?_
  refine j_aload_n h 3 dL_law_1357 rfl rfl ?_
  refine j_iload_n h 0 dL_law_1358 rfl rfl ?_
  refine j_iconst h dL_law_1359 ?_
  refine j_iadd h dL_law_1360 ?_
  refine j_sld h hX hL (by omega) (by omega) dL_law_1361 ?_
  refine j_aload_n h 3 dL_law_1362 rfl rfl ?_
  refine j_iload_n h 0 dL_law_1363 rfl rfl ?_
  refine j_iconst h dL_law_1364 ?_
  refine j_iadd h dL_law_1365 ?_
  refine j_sld h hX hL (by omega) (by omega) dL_law_1366 ?_
  refine j_callV h (ct_R (fun g0 => q_regionAlike hE (okI_of (xs (z + 1).toNat)) (okI_of (xs (z + 2).toNat)) (okI_of (xs (z + 3).toNat)) (okI_of (xs (z + 4).toNat)) (okI_of (xs (z + 5).toNat)))) m_X4_regionAlike a_l_L_140 rfl rfl ⟨Nat.le_of_ble_eq_true rfl, Nat.le_of_ble_eq_true rfl⟩ (ci := 4) rfl (by omega) rcL4 rfl rfl (Nat.le_of_ble_eq_true rfl) dL_law_1367 ?_
  exact j_rcmp_eq h 2079 dL_law_1370 (by decide) (fun _ => K _) (fun w => absurd rfl w)
