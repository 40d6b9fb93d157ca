section LC
variable {p : Program} {l : Launch} {e : Env} {s : State} {m : MethodId} {below : List Frame} {meth : Method} {c : Code} {H : Heap} {locs : List Loc} {Q : State → Prop}
variable {ls : Array Slot} {D : va_G} {K Km : zK} {V : zV} {f : Nat → Int32} {A : Nat → Nat → Int32} {a b sb L N : Nat} {i : Int32} {xs : Nat → Int32}
set_option maxHeartbeats 4000000 in
set_option maxRecDepth 100000 in
theorem lc_24 (G : lwG p s m meth c sb L xs D) (hi : i.toInt = 5 * (N : Int)) (hL : 5 * N + 5 ≤ L) (T : lwT D s K V a Km f A b (N : Int) H locs) (hl : lv_has ls 4 [(3, .int i), (2, .ref b), (1, .ref a), (0, .ref sb)]) (nx : ∀ (K : zK) (V : zV) (f : Nat → Int32) (A : Nat → Nat → Int32) (H : Heap) (locs : List Loc) (ls : Array Slot), lwT D s K V a Km f A b ((N : Int) + 1) H locs → lv_has ls 4 [(3, .int i), (2, .ref b), (1, .ref a), (0, .ref sb)] → W p l e room_1 s m #[Value.ref sb] below meth c H locs (2000 + (N + 1)) (700000 + 3 * (N + 1)) Q (F0 m 1419 ls [])) : W p l e room_1 s m #[Value.ref sb] below meth c H locs (2000 + N) (700000 + 3 * N) Q (F0 m 1106 ls []) := by
  obtain ⟨hx, hb, hr, hml, hown, hts, hX, hbl, hlocks, hgv⟩ := id G.1
  have hL2 := G.2.1
  obtain ⟨vi, va, vg⟩ := V
  have hf : (2000 + N) + 0 ≤ room_1.cells ∧ (700000 + 3 * N) + 0 ≤ room_1.slots := ⟨by show 2000 + N + 0 ≤ 600000; omega, by show 700000 + 3 * N + 0 ≤ 7302250; omega⟩
  have h600 : 0 ≤ (N : Int) ∧ (N : Int) ≤ 600 := ⟨by omega, by omega⟩
  refine lv_aload_n hx hb dL_law_1106 rfl (lv_at hl 2 rfl) ?_
  refine lw_arg (k := 1) (kv := 1) G T.2.2.2.2 hl hi hL rfl ti_1 (by decide) dL_law_1107 dL_law_1108 dL_law_1109 dL_law_1110 dL_law_1111 ?_
  refine lw_arg (k := 2) (kv := 2) G T.2.2.2.2 hl hi hL rfl ti_2 (by decide) dL_law_1112 dL_law_1113 dL_law_1114 dL_law_1115 dL_law_1116 ?_
  refine lw_arg (k := 3) (kv := 3) G T.2.2.2.2 hl hi hL rfl ti_3 (by decide) dL_law_1117 dL_law_1118 dL_law_1119 dL_law_1120 dL_law_1121 ?_
  refine lw_cX T (lw_runX (As := [.int (xs (5 * N + 1)), .int (xs (5 * N + 2)), .int (xs (5 * N + 3))]) (rest := []) G T.1 T.2.2.2.2 (c_X11_line l D K T.1.1 vi va vg T.1.2.1 a T.1.2.2.2.1.1 T.1.2.2.2.1.2 (xs (5 * N + 1)) (xs (5 * N + 2)) (xs (5 * N + 3))) m_X11_line rfl wm_L_114 ⟨Nat.le_of_ble_eq_true rfl, Nat.le_of_ble_eq_true rfl⟩ hf hl.1 (Nat.le_of_ble_eq_true rfl) dL_law_1122) (fun r V h => h) (fun r1 V1 H locs p1 T => ?_)
  refine lv_pop hx hb dL_law_1125 rfl ?_
  refine lv_aload_n hx hb dL_law_1126 rfl (lv_at hl 1 rfl) ?_
  refine lw_arg (k := 1) (kv := 1) G T.2.2.2.2 hl hi hL rfl ti_1 (by decide) dL_law_1127 dL_law_1128 dL_law_1129 dL_law_1130 dL_law_1131 ?_
  refine lw_arg (k := 2) (kv := 2) G T.2.2.2.2 hl hi hL rfl ti_2 (by decide) dL_law_1132 dL_law_1133 dL_law_1134 dL_law_1135 dL_law_1136 ?_
  refine lw_arg (k := 3) (kv := 3) G T.2.2.2.2 hl hi hL rfl ti_3 (by decide) dL_law_1137 dL_law_1138 dL_law_1139 dL_law_1140 dL_law_1141 ?_
  refine lw_cM T (lw_runM (As := [.int (xs (5 * N + 1)), .int (xs (5 * N + 2)), .int (xs (5 * N + 3))]) (rest := []) G T.2.1 T.2.2.2.2 (c_X12_line l D Km T.2.1.1 f A T.2.1.2.1 (N : Int) b T.2.1.2.2.2.2.1.1 T.2.1.2.2.2.2.1.2 (xs (5 * N + 1)) (xs (5 * N + 2)) (xs (5 * N + 3)) T.2.1.2.2.1 h600) m_X12_line rfl wm_L_117 ⟨Nat.le_of_ble_eq_true rfl, Nat.le_of_ble_eq_true rfl⟩ hf hl.1 (Nat.le_of_ble_eq_true rfl) dL_law_1142) (fun r f' A' h => ⟨h.1, h.2.2.2, h.2.1 43 (by decide)⟩) (fun r2 f2 A2 H locs p2 T9 => ?_)
  refine lv_pop hx hb dL_law_1145 rfl ?_
  refine lv_goto (tgt := 1419) hx hb dL_law_1146 (by decide) ?_
  refine W.widen (k := 2000 + (N + 1)) (n := 700000 + 3 * (N + 1)) (by omega) (by omega) ?_
  exact nx _ _ _ _ _ _ _ T9 hl
set_option maxHeartbeats 4000000 in
set_option maxRecDepth 100000 in
theorem lc_25 (G : lwG p s m meth c sb L xs D) (hi : i.toInt = 5 * (N : Int)) (hL : 5 * N + 5 ≤ L) (T : lwT D s K V a Km f A b (N : Int) H locs) (hl : lv_has ls 4 [(3, .int i), (2, .ref b), (1, .ref a), (0, .ref sb)]) (nx : ∀ (K : zK) (V : zV) (f : Nat → Int32) (A : Nat → Nat → Int32) (H : Heap) (locs : List Loc) (ls : Array Slot), lwT D s K V a Km f A b ((N : Int) + 1) H locs → lv_has ls 4 [(3, .int i), (2, .ref b), (1, .ref a), (0, .ref sb)] → W p l e room_1 s m #[Value.ref sb] below meth c H locs (2000 + (N + 1)) (700000 + 3 * (N + 1)) Q (F0 m 1419 ls [])) : W p l e room_1 s m #[Value.ref sb] below meth c H locs (2000 + N) (700000 + 3 * N) Q (F0 m 1149 ls []) := by
  obtain ⟨hx, hb, hr, hml, hown, hts, hX, hbl, hlocks, hgv⟩ := id G.1
  have hL2 := G.2.1
  obtain ⟨vi, va, vg⟩ := V
  have hf : (2000 + N) + 0 ≤ room_1.cells ∧ (700000 + 3 * N) + 0 ≤ room_1.slots := ⟨by show 2000 + N + 0 ≤ 600000; omega, by show 700000 + 3 * N + 0 ≤ 7302250; omega⟩
  have h600 : 0 ≤ (N : Int) ∧ (N : Int) ≤ 600 := ⟨by omega, by omega⟩
  refine lv_aload_n hx hb dL_law_1149 rfl (lv_at hl 2 rfl) ?_
  refine lw_arg (k := 1) (kv := 1) G T.2.2.2.2 hl hi hL rfl ti_1 (by decide) dL_law_1150 dL_law_1151 dL_law_1152 dL_law_1153 dL_law_1154 ?_
  refine lw_arg (k := 2) (kv := 2) G T.2.2.2.2 hl hi hL rfl ti_2 (by decide) dL_law_1155 dL_law_1156 dL_law_1157 dL_law_1158 dL_law_1159 ?_
  refine lw_cX T (lw_runX (As := [.int (xs (5 * N + 1)), .int (xs (5 * N + 2))]) (rest := []) G T.1 T.2.2.2.2 (c_X11_check l D K T.1.1 vi va vg T.1.2.1 a T.1.2.2.2.1.1 T.1.2.2.2.1.2 (xs (5 * N + 1)) (xs (5 * N + 2))) m_X11_check rfl wm_L_118 ⟨Nat.le_of_ble_eq_true rfl, Nat.le_of_ble_eq_true rfl⟩ hf hl.1 (Nat.le_of_ble_eq_true rfl) dL_law_1160) (fun r V h => h) (fun r1 V1 H locs p1 T => ?_)
  refine lv_pop hx hb dL_law_1163 rfl ?_
  refine lv_aload_n hx hb dL_law_1164 rfl (lv_at hl 1 rfl) ?_
  refine lw_arg (k := 1) (kv := 1) G T.2.2.2.2 hl hi hL rfl ti_1 (by decide) dL_law_1165 dL_law_1166 dL_law_1167 dL_law_1168 dL_law_1169 ?_
  refine lw_arg (k := 2) (kv := 2) G T.2.2.2.2 hl hi hL rfl ti_2 (by decide) dL_law_1170 dL_law_1171 dL_law_1172 dL_law_1173 dL_law_1174 ?_
  refine lw_cM T (lw_runM (As := [.int (xs (5 * N + 1)), .int (xs (5 * N + 2))]) (rest := []) G T.2.1 T.2.2.2.2 (c_X12_check l D Km T.2.1.1 f A T.2.1.2.1 (N : Int) b T.2.1.2.2.2.2.1.1 T.2.1.2.2.2.2.1.2 (xs (5 * N + 1)) (xs (5 * N + 2)) T.2.1.2.2.1 h600) m_X12_check rfl wm_L_121 ⟨Nat.le_of_ble_eq_true rfl, Nat.le_of_ble_eq_true rfl⟩ hf hl.1 (Nat.le_of_ble_eq_true rfl) dL_law_1175) (fun r f' A' h => ⟨h.1, h.2.2.2, h.2.1 43 (by decide)⟩) (fun r2 f2 A2 H locs p2 T9 => ?_)
  refine lv_pop hx hb dL_law_1178 rfl ?_
  refine lv_goto (tgt := 1419) hx hb dL_law_1179 (by decide) ?_
  refine W.widen (k := 2000 + (N + 1)) (n := 700000 + 3 * (N + 1)) (by omega) (by omega) ?_
  exact nx _ _ _ _ _ _ _ T9 hl
set_option maxHeartbeats 4000000 in
set_option maxRecDepth 100000 in
theorem lc_26 (G : lwG p s m meth c sb L xs D) (hi : i.toInt = 5 * (N : Int)) (hL : 5 * N + 5 ≤ L) (T : lwT D s K V a Km f A b (N : Int) H locs) (hl : lv_has ls 4 [(3, .int i), (2, .ref b), (1, .ref a), (0, .ref sb)]) (nx : ∀ (K : zK) (V : zV) (f : Nat → Int32) (A : Nat → Nat → Int32) (H : Heap) (locs : List Loc) (ls : Array Slot), lwT D s K V a Km f A b ((N : Int) + 1) H locs → lv_has ls 4 [(3, .int i), (2, .ref b), (1, .ref a), (0, .ref sb)] → W p l e room_1 s m #[Value.ref sb] below meth c H locs (2000 + (N + 1)) (700000 + 3 * (N + 1)) Q (F0 m 1419 ls [])) : W p l e room_1 s m #[Value.ref sb] below meth c H locs (2000 + N) (700000 + 3 * N) Q (F0 m 1182 ls []) := by
  obtain ⟨hx, hb, hr, hml, hown, hts, hX, hbl, hlocks, hgv⟩ := id G.1
  have hL2 := G.2.1
  obtain ⟨vi, va, vg⟩ := V
  have hf : (2000 + N) + 0 ≤ room_1.cells ∧ (700000 + 3 * N) + 0 ≤ room_1.slots := ⟨by show 2000 + N + 0 ≤ 600000; omega, by show 700000 + 3 * N + 0 ≤ 7302250; omega⟩
  have h600 : 0 ≤ (N : Int) ∧ (N : Int) ≤ 600 := ⟨by omega, by omega⟩
  refine lv_aload_n hx hb dL_law_1182 rfl (lv_at hl 2 rfl) ?_
  refine lw_arg (k := 1) (kv := 1) G T.2.2.2.2 hl hi hL rfl ti_1 (by decide) dL_law_1183 dL_law_1184 dL_law_1185 dL_law_1186 dL_law_1187 ?_
  refine lw_arg (k := 2) (kv := 2) G T.2.2.2.2 hl hi hL rfl ti_2 (by decide) dL_law_1188 dL_law_1189 dL_law_1190 dL_law_1191 dL_law_1192 ?_
  refine lw_arg (k := 3) (kv := 3) G T.2.2.2.2 hl hi hL rfl ti_3 (by decide) dL_law_1193 dL_law_1194 dL_law_1195 dL_law_1196 dL_law_1197 ?_
  refine lw_cX T (lw_runX (As := [.int (xs (5 * N + 1)), .int (xs (5 * N + 2)), .int (xs (5 * N + 3))]) (rest := []) G T.1 T.2.2.2.2 (c_X11_claim l D K T.1.1 vi va vg T.1.2.1 a T.1.2.2.2.1.1 T.1.2.2.2.1.2 (xs (5 * N + 1)) (xs (5 * N + 2)) (xs (5 * N + 3))) m_X11_claim rfl wm_L_122 ⟨Nat.le_of_ble_eq_true rfl, Nat.le_of_ble_eq_true rfl⟩ hf hl.1 (Nat.le_of_ble_eq_true rfl) dL_law_1198) (fun r V h => h) (fun r1 V1 H locs p1 T => ?_)
  refine lv_pop hx hb dL_law_1201 rfl ?_
  refine lv_aload_n hx hb dL_law_1202 rfl (lv_at hl 1 rfl) ?_
  refine lw_arg (k := 1) (kv := 1) G T.2.2.2.2 hl hi hL rfl ti_1 (by decide) dL_law_1203 dL_law_1204 dL_law_1205 dL_law_1206 dL_law_1207 ?_
  refine lw_arg (k := 2) (kv := 2) G T.2.2.2.2 hl hi hL rfl ti_2 (by decide) dL_law_1208 dL_law_1209 dL_law_1210 dL_law_1211 dL_law_1212 ?_
  refine lw_arg (k := 3) (kv := 3) G T.2.2.2.2 hl hi hL rfl ti_3 (by decide) dL_law_1213 dL_law_1214 dL_law_1215 dL_law_1216 dL_law_1217 ?_
  refine lw_cM T (lw_runM (As := [.int (xs (5 * N + 1)), .int (xs (5 * N + 2)), .int (xs (5 * N + 3))]) (rest := []) G T.2.1 T.2.2.2.2 (c_X12_claim l D Km T.2.1.1 f A T.2.1.2.1 (N : Int) b T.2.1.2.2.2.2.1.1 T.2.1.2.2.2.2.1.2 (xs (5 * N + 1)) (xs (5 * N + 2)) (xs (5 * N + 3)) T.2.1.2.2.1 h600) m_X12_claim rfl wm_L_125 ⟨Nat.le_of_ble_eq_true rfl, Nat.le_of_ble_eq_true rfl⟩ hf hl.1 (Nat.le_of_ble_eq_true rfl) dL_law_1218) (fun r f' A' h => ⟨h.1, h.2.2.2, h.2.1 43 (by decide)⟩) (fun r2 f2 A2 H locs p2 T9 => ?_)
  refine lv_pop hx hb dL_law_1221 rfl ?_
  refine lv_goto (tgt := 1419) hx hb dL_law_1222 (by decide) ?_
  refine W.widen (k := 2000 + (N + 1)) (n := 700000 + 3 * (N + 1)) (by omega) (by omega) ?_
  exact nx _ _ _ _ _ _ _ T9 hl
set_option maxHeartbeats 4000000 in
set_option maxRecDepth 100000 in
theorem lc_27 (G : lwG p s m meth c sb L xs D) (hi : i.toInt = 5 * (N : Int)) (hL : 5 * N + 5 ≤ L) (T : lwT D s K V a Km f A b (N : Int) H locs) (hl : lv_has ls 4 [(3, .int i), (2, .ref b), (1, .ref a), (0, .ref sb)]) (nx : ∀ (K : zK) (V : zV) (f : Nat → Int32) (A : Nat → Nat → Int32) (H : Heap) (locs : List Loc) (ls : Array Slot), lwT D s K V a Km f A b ((N : Int) + 1) H locs → lv_has ls 4 [(3, .int i), (2, .ref b), (1, .ref a), (0, .ref sb)] → W p l e room_1 s m #[Value.ref sb] below meth c H locs (2000 + (N + 1)) (700000 + 3 * (N + 1)) Q (F0 m 1419 ls [])) : W p l e room_1 s m #[Value.ref sb] below meth c H locs (2000 + N) (700000 + 3 * N) Q (F0 m 1225 ls []) := by
  obtain ⟨hx, hb, hr, hml, hown, hts, hX, hbl, hlocks, hgv⟩ := id G.1
  have hL2 := G.2.1
  obtain ⟨vi, va, vg⟩ := V
  have hf : (2000 + N) + 0 ≤ room_1.cells ∧ (700000 + 3 * N) + 0 ≤ room_1.slots := ⟨by show 2000 + N + 0 ≤ 600000; omega, by show 700000 + 3 * N + 0 ≤ 7302250; omega⟩
  have h600 : 0 ≤ (N : Int) ∧ (N : Int) ≤ 600 := ⟨by omega, by omega⟩
  refine lv_aload_n hx hb dL_law_1225 rfl (lv_at hl 2 rfl) ?_
  refine lw_arg (k := 1) (kv := 1) G T.2.2.2.2 hl hi hL rfl ti_1 (by decide) dL_law_1226 dL_law_1227 dL_law_1228 dL_law_1229 dL_law_1230 ?_
  refine lw_cX T (lw_runX (As := [.int (xs (5 * N + 1))]) (rest := []) G T.1 T.2.2.2.2 (c_X11_undo l D K T.1.1 vi va vg T.1.2.1 a T.1.2.2.2.1.1 T.1.2.2.2.1.2 (xs (5 * N + 1))) m_X11_undo rfl wm_L_126 ⟨Nat.le_of_ble_eq_true rfl, Nat.le_of_ble_eq_true rfl⟩ hf hl.1 (Nat.le_of_ble_eq_true rfl) dL_law_1231) (fun r V h => h) (fun r1 V1 H locs p1 T => ?_)
  refine lv_pop hx hb dL_law_1234 rfl ?_
  refine lv_aload_n hx hb dL_law_1235 rfl (lv_at hl 1 rfl) ?_
  refine lw_arg (k := 1) (kv := 1) G T.2.2.2.2 hl hi hL rfl ti_1 (by decide) dL_law_1236 dL_law_1237 dL_law_1238 dL_law_1239 dL_law_1240 ?_
  refine lw_cM T (lw_runM (As := [.int (xs (5 * N + 1))]) (rest := []) G T.2.1 T.2.2.2.2 (c_X12_undo l D Km T.2.1.1 f A T.2.1.2.1 (N : Int) b T.2.1.2.2.2.2.1.1 T.2.1.2.2.2.2.1.2 (xs (5 * N + 1)) T.2.1.2.2.1 h600) m_X12_undo rfl wm_L_129 ⟨Nat.le_of_ble_eq_true rfl, Nat.le_of_ble_eq_true rfl⟩ hf hl.1 (Nat.le_of_ble_eq_true rfl) dL_law_1241) (fun r f' A' h => ⟨h.1, h.2.2.2, h.2.1 43 (by decide)⟩) (fun r2 f2 A2 H locs p2 T9 => ?_)
  refine lv_pop hx hb dL_law_1244 rfl ?_
  refine lv_goto (tgt := 1419) hx hb dL_law_1245 (by decide) ?_
  refine W.widen (k := 2000 + (N + 1)) (n := 700000 + 3 * (N + 1)) (by omega) (by omega) ?_
  exact nx _ _ _ _ _ _ _ T9 hl
set_option maxHeartbeats 4000000 in
set_option maxRecDepth 100000 in
theorem lc_28 (G : lwG p s m meth c sb L xs D) (hi : i.toInt = 5 * (N : Int)) (hL : 5 * N + 5 ≤ L) (T : lwT D s K V a Km f A b (N : Int) H locs) (hl : lv_has ls 4 [(3, .int i), (2, .ref b), (1, .ref a), (0, .ref sb)]) (nx : ∀ (K : zK) (V : zV) (f : Nat → Int32) (A : Nat → Nat → Int32) (H : Heap) (locs : List Loc) (ls : Array Slot), lwT D s K V a Km f A b ((N : Int) + 1) H locs → lv_has ls 4 [(3, .int i), (2, .ref b), (1, .ref a), (0, .ref sb)] → W p l e room_1 s m #[Value.ref sb] below meth c H locs (2000 + (N + 1)) (700000 + 3 * (N + 1)) Q (F0 m 1419 ls [])) : W p l e room_1 s m #[Value.ref sb] below meth c H locs (2000 + N) (700000 + 3 * N) Q (F0 m 1248 ls []) := by
  obtain ⟨hx, hb, hr, hml, hown, hts, hX, hbl, hlocks, hgv⟩ := id G.1
  have hL2 := G.2.1
  obtain ⟨vi, va, vg⟩ := V
  have hf : (2000 + N) + 0 ≤ room_1.cells ∧ (700000 + 3 * N) + 0 ≤ room_1.slots := ⟨by show 2000 + N + 0 ≤ 600000; omega, by show 700000 + 3 * N + 0 ≤ 7302250; omega⟩
  have h600 : 0 ≤ (N : Int) ∧ (N : Int) ≤ 600 := ⟨by omega, by omega⟩
  refine lv_aload_n hx hb dL_law_1248 rfl (lv_at hl 2 rfl) ?_
  refine lw_arg (k := 1) (kv := 1) G T.2.2.2.2 hl hi hL rfl ti_1 (by decide) dL_law_1249 dL_law_1250 dL_law_1251 dL_law_1252 dL_law_1253 ?_
  refine lw_cX T (lw_runX (As := [.int (xs (5 * N + 1))]) (rest := []) G T.1 T.2.2.2.2 (c_X11_replay l D K T.1.1 vi va vg T.1.2.1 a T.1.2.2.2.1.1 T.1.2.2.2.1.2 (xs (5 * N + 1))) m_X11_replay rfl wm_L_130 ⟨Nat.le_of_ble_eq_true rfl, Nat.le_of_ble_eq_true rfl⟩ hf hl.1 (Nat.le_of_ble_eq_true rfl) dL_law_1254) (fun r V h => h) (fun r1 V1 H locs p1 T => ?_)
  refine lv_pop hx hb dL_law_1257 rfl ?_
  refine lv_aload_n hx hb dL_law_1258 rfl (lv_at hl 1 rfl) ?_
  refine lw_arg (k := 1) (kv := 1) G T.2.2.2.2 hl hi hL rfl ti_1 (by decide) dL_law_1259 dL_law_1260 dL_law_1261 dL_law_1262 dL_law_1263 ?_
  refine lw_cM T (lw_runM (As := [.int (xs (5 * N + 1))]) (rest := []) G T.2.1 T.2.2.2.2 (c_X12_replay l D Km T.2.1.1 f A T.2.1.2.1 (N : Int) b T.2.1.2.2.2.2.1.1 T.2.1.2.2.2.2.1.2 (xs (5 * N + 1)) T.2.1.2.2.1 h600) m_X12_replay rfl wm_L_133 ⟨Nat.le_of_ble_eq_true rfl, Nat.le_of_ble_eq_true rfl⟩ hf hl.1 (Nat.le_of_ble_eq_true rfl) dL_law_1264) (fun r f' A' h => ⟨h.1, h.2.2.2, h.2.1 43 (by decide)⟩) (fun r2 f2 A2 H locs p2 T9 => ?_)
  refine lv_pop hx hb dL_law_1267 rfl ?_
  refine lv_goto (tgt := 1419) hx hb dL_law_1268 (by decide) ?_
  refine W.widen (k := 2000 + (N + 1)) (n := 700000 + 3 * (N + 1)) (by omega) (by omega) ?_
  exact nx _ _ _ _ _ _ _ T9 hl
set_option maxHeartbeats 4000000 in
set_option maxRecDepth 100000 in
theorem lc_29 (G : lwG p s m meth c sb L xs D) (hi : i.toInt = 5 * (N : Int)) (hL : 5 * N + 5 ≤ L) (T : lwT D s K V a Km f A b (N : Int) H locs) (hl : lv_has ls 4 [(3, .int i), (2, .ref b), (1, .ref a), (0, .ref sb)]) (nx : ∀ (K : zK) (V : zV) (f : Nat → Int32) (A : Nat → Nat → Int32) (H : Heap) (locs : List Loc) (ls : Array Slot), lwT D s K V a Km f A b ((N : Int) + 1) H locs → lv_has ls 4 [(3, .int i), (2, .ref b), (1, .ref a), (0, .ref sb)] → W p l e room_1 s m #[Value.ref sb] below meth c H locs (2000 + (N + 1)) (700000 + 3 * (N + 1)) Q (F0 m 1419 ls [])) : W p l e room_1 s m #[Value.ref sb] below meth c H locs (2000 + N) (700000 + 3 * N) Q (F0 m 1271 ls []) := by
  obtain ⟨hx, hb, hr, hml, hown, hts, hX, hbl, hlocks, hgv⟩ := id G.1
  have hL2 := G.2.1
  obtain ⟨vi, va, vg⟩ := V
  have hf : (2000 + N) + 0 ≤ room_1.cells ∧ (700000 + 3 * N) + 0 ≤ room_1.slots := ⟨by show 2000 + N + 0 ≤ 600000; omega, by show 700000 + 3 * N + 0 ≤ 7302250; omega⟩
  have h600 : 0 ≤ (N : Int) ∧ (N : Int) ≤ 600 := ⟨by omega, by omega⟩
  refine lv_aload_n hx hb dL_law_1271 rfl (lv_at hl 2 rfl) ?_
  refine lw_arg (k := 1) (kv := 1) G T.2.2.2.2 hl hi hL rfl ti_1 (by decide) dL_law_1272 dL_law_1273 dL_law_1274 dL_law_1275 dL_law_1276 ?_
  refine lw_cS (lw_runX (As := [.int (xs (5 * N + 1))]) (rest := []) G T.1 T.2.2.2.2 (c_X11_digest l D K T.1.1 vi va vg T.1.2.1 a T.1.2.2.2.1.1 T.1.2.2.2.1.2 (xs (5 * N + 1))) m_X11_digest rfl wm_L_134 ⟨Nat.le_of_ble_eq_true rfl, Nat.le_of_ble_eq_true rfl⟩ hf hl.1 (Nat.le_of_ble_eq_true rfl) dL_law_1277) (fun r1 p1 => ?_)
  refine lv_pop hx hb dL_law_1280 rfl ?_
  refine lv_aload_n hx hb dL_law_1281 rfl (lv_at hl 1 rfl) ?_
  refine lw_arg (k := 1) (kv := 1) G T.2.2.2.2 hl hi hL rfl ti_1 (by decide) dL_law_1282 dL_law_1283 dL_law_1284 dL_law_1285 dL_law_1286 ?_
  refine lw_cS (lw_runM (As := [.int (xs (5 * N + 1))]) (rest := []) G T.2.1 T.2.2.2.2 (c_X12_digest l D Km T.2.1.1 f A T.2.1.2.1 b T.2.1.2.2.2.2.1.1 T.2.1.2.2.2.2.1.2 (xs (5 * N + 1))) m_X12_digest rfl wm_L_137 ⟨Nat.le_of_ble_eq_true rfl, Nat.le_of_ble_eq_true rfl⟩ hf hl.1 (Nat.le_of_ble_eq_true rfl) dL_law_1287) (fun r2 p2 => ?_)
  have T9 := T.up
  refine lv_pop hx hb dL_law_1290 rfl ?_
  refine lv_goto (tgt := 1419) hx hb dL_law_1291 (by decide) ?_
  refine W.widen (k := 2000 + (N + 1)) (n := 700000 + 3 * (N + 1)) (by omega) (by omega) ?_
  exact nx _ _ _ _ _ _ _ T9 hl
set_option maxHeartbeats 4000000 in
set_option maxRecDepth 100000 in
theorem lc_30 (G : lwG p s m meth c sb L xs D) (hi : i.toInt = 5 * (N : Int)) (hL : 5 * N + 5 ≤ L) (T : lwT D s K V a Km f A b (N : Int) H locs) (hl : lv_has ls 4 [(3, .int i), (2, .ref b), (1, .ref a), (0, .ref sb)]) (nx : ∀ (K : zK) (V : zV) (f : Nat → Int32) (A : Nat → Nat → Int32) (H : Heap) (locs : List Loc) (ls : Array Slot), lwT D s K V a Km f A b ((N : Int) + 1) H locs → lv_has ls 4 [(3, .int i), (2, .ref b), (1, .ref a), (0, .ref sb)] → W p l e room_1 s m #[Value.ref sb] below meth c H locs (2000 + (N + 1)) (700000 + 3 * (N + 1)) Q (F0 m 1419 ls [])) : W p l e room_1 s m #[Value.ref sb] below meth c H locs (2000 + N) (700000 + 3 * N) Q (F0 m 1294 ls []) := by
  obtain ⟨hx, hb, hr, hml, hown, hts, hX, hbl, hlocks, hgv⟩ := id G.1
  have hL2 := G.2.1
  obtain ⟨vi, va, vg⟩ := V
  have hf : (2000 + N) + 0 ≤ room_1.cells ∧ (700000 + 3 * N) + 0 ≤ room_1.slots := ⟨by show 2000 + N + 0 ≤ 600000; omega, by show 700000 + 3 * N + 0 ≤ 7302250; omega⟩
  have h600 : 0 ≤ (N : Int) ∧ (N : Int) ≤ 600 := ⟨by omega, by omega⟩
  refine lv_aload_n hx hb dL_law_1294 rfl (lv_at hl 2 rfl) ?_
  refine lw_arg (k := 1) (kv := 1) G T.2.2.2.2 hl hi hL rfl ti_1 (by decide) dL_law_1295 dL_law_1296 dL_law_1297 dL_law_1298 dL_law_1299 ?_
  refine lw_arg (k := 2) (kv := 2) G T.2.2.2.2 hl hi hL rfl ti_2 (by decide) dL_law_1300 dL_law_1301 dL_law_1302 dL_law_1303 dL_law_1304 ?_
  refine lw_cS (lw_runX (As := [.int (xs (5 * N + 1)), .int (xs (5 * N + 2))]) (rest := []) G T.1 T.2.2.2.2 (c_X11_finding l D K T.1.1 vi va vg T.1.2.1 a T.1.2.2.2.1.1 T.1.2.2.2.1.2 (xs (5 * N + 1)) (xs (5 * N + 2))) m_X11_finding rfl wm_L_138 ⟨Nat.le_of_ble_eq_true rfl, Nat.le_of_ble_eq_true rfl⟩ hf hl.1 (Nat.le_of_ble_eq_true rfl) dL_law_1305) (fun r1 p1 => ?_)
  refine lv_pop hx hb dL_law_1308 rfl ?_
  refine lv_aload_n hx hb dL_law_1309 rfl (lv_at hl 1 rfl) ?_
  refine lw_arg (k := 1) (kv := 1) G T.2.2.2.2 hl hi hL rfl ti_1 (by decide) dL_law_1310 dL_law_1311 dL_law_1312 dL_law_1313 dL_law_1314 ?_
  refine lw_arg (k := 2) (kv := 2) G T.2.2.2.2 hl hi hL rfl ti_2 (by decide) dL_law_1315 dL_law_1316 dL_law_1317 dL_law_1318 dL_law_1319 ?_
  refine lw_cS (lw_runM (As := [.int (xs (5 * N + 1)), .int (xs (5 * N + 2))]) (rest := []) G T.2.1 T.2.2.2.2 (c_X12_finding l D Km T.2.1.1 f A T.2.1.2.1 b T.2.1.2.2.2.2.1.1 T.2.1.2.2.2.2.1.2 (xs (5 * N + 1)) (xs (5 * N + 2))) m_X12_finding rfl wm_L_141 ⟨Nat.le_of_ble_eq_true rfl, Nat.le_of_ble_eq_true rfl⟩ hf hl.1 (Nat.le_of_ble_eq_true rfl) dL_law_1320) (fun r2 p2 => ?_)
  have T9 := T.up
  refine lv_pop hx hb dL_law_1323 rfl ?_
  refine lv_goto (tgt := 1419) hx hb dL_law_1324 (by decide) ?_
  refine W.widen (k := 2000 + (N + 1)) (n := 700000 + 3 * (N + 1)) (by omega) (by omega) ?_
  exact nx _ _ _ _ _ _ _ T9 hl
set_option maxHeartbeats 4000000 in
set_option maxRecDepth 100000 in
theorem lc_31 (G : lwG p s m meth c sb L xs D) (hi : i.toInt = 5 * (N : Int)) (hL : 5 * N + 5 ≤ L) (T : lwT D s K V a Km f A b (N : Int) H locs) (hl : lv_has ls 4 [(3, .int i), (2, .ref b), (1, .ref a), (0, .ref sb)]) (nx : ∀ (K : zK) (V : zV) (f : Nat → Int32) (A : Nat → Nat → Int32) (H : Heap) (locs : List Loc) (ls : Array Slot), lwT D s K V a Km f A b ((N : Int) + 1) H locs → lv_has ls 4 [(3, .int i), (2, .ref b), (1, .ref a), (0, .ref sb)] → W p l e room_1 s m #[Value.ref sb] below meth c H locs (2000 + (N + 1)) (700000 + 3 * (N + 1)) Q (F0 m 1419 ls [])) : W p l e room_1 s m #[Value.ref sb] below meth c H locs (2000 + N) (700000 + 3 * N) Q (F0 m 1327 ls []) := by
  obtain ⟨hx, hb, hr, hml, hown, hts, hX, hbl, hlocks, hgv⟩ := id G.1
  have hL2 := G.2.1
  obtain ⟨vi, va, vg⟩ := V
  have hf : (2000 + N) + 0 ≤ room_1.cells ∧ (700000 + 3 * N) + 0 ≤ room_1.slots := ⟨by show 2000 + N + 0 ≤ 600000; omega, by show 700000 + 3 * N + 0 ≤ 7302250; omega⟩
  have h600 : 0 ≤ (N : Int) ∧ (N : Int) ≤ 600 := ⟨by omega, by omega⟩
  refine lv_aload_n hx hb dL_law_1327 rfl (lv_at hl 2 rfl) ?_
  refine lw_arg (k := 1) (kv := 1) G T.2.2.2.2 hl hi hL rfl ti_1 (by decide) dL_law_1328 dL_law_1329 dL_law_1330 dL_law_1331 dL_law_1332 ?_
  refine lw_cS (lw_runX (As := [.int (xs (5 * N + 1))]) (rest := []) G T.1 T.2.2.2.2 (c_X11_trace l D K T.1.1 vi va vg T.1.2.1 a T.1.2.2.2.1.1 T.1.2.2.2.1.2 (xs (5 * N + 1))) m_X11_trace rfl wm_L_142 ⟨Nat.le_of_ble_eq_true rfl, Nat.le_of_ble_eq_true rfl⟩ hf hl.1 (Nat.le_of_ble_eq_true rfl) dL_law_1333) (fun r1 p1 => ?_)
  refine lv_pop hx hb dL_law_1336 rfl ?_
  refine lv_aload_n hx hb dL_law_1337 rfl (lv_at hl 1 rfl) ?_
  refine lw_arg (k := 1) (kv := 1) G T.2.2.2.2 hl hi hL rfl ti_1 (by decide) dL_law_1338 dL_law_1339 dL_law_1340 dL_law_1341 dL_law_1342 ?_
  refine lw_cS (lw_runM (As := [.int (xs (5 * N + 1))]) (rest := []) G T.2.1 T.2.2.2.2 (c_X12_trace l D Km T.2.1.1 f A T.2.1.2.1 b T.2.1.2.2.2.2.1.1 T.2.1.2.2.2.2.1.2 (xs (5 * N + 1))) m_X12_trace rfl wm_L_145 ⟨Nat.le_of_ble_eq_true rfl, Nat.le_of_ble_eq_true rfl⟩ hf hl.1 (Nat.le_of_ble_eq_true rfl) dL_law_1343) (fun r2 p2 => ?_)
  have T9 := T.up
  refine lv_pop hx hb dL_law_1346 rfl ?_
  refine lv_goto (tgt := 1419) hx hb dL_law_1347 (by decide) ?_
  refine W.widen (k := 2000 + (N + 1)) (n := 700000 + 3 * (N + 1)) (by omega) (by omega) ?_
  exact nx _ _ _ _ _ _ _ T9 hl
set_option maxHeartbeats 4000000 in
set_option maxRecDepth 100000 in
theorem lc_32 (G : lwG p s m meth c sb L xs D) (hi : i.toInt = 5 * (N : Int)) (hL : 5 * N + 5 ≤ L) (T : lwT D s K V a Km f A b (N : Int) H locs) (hl : lv_has ls 4 [(3, .int i), (2, .ref b), (1, .ref a), (0, .ref sb)]) (nx : ∀ (K : zK) (V : zV) (f : Nat → Int32) (A : Nat → Nat → Int32) (H : Heap) (locs : List Loc) (ls : Array Slot), lwT D s K V a Km f A b ((N : Int) + 1) H locs → lv_has ls 4 [(3, .int i), (2, .ref b), (1, .ref a), (0, .ref sb)] → W p l e room_1 s m #[Value.ref sb] below meth c H locs (2000 + (N + 1)) (700000 + 3 * (N + 1)) Q (F0 m 1419 ls [])) : W p l e room_1 s m #[Value.ref sb] below meth c H locs (2000 + N) (700000 + 3 * N) Q (F0 m 1350 ls []) := by
  obtain ⟨hx, hb, hr, hml, hown, hts, hX, hbl, hlocks, hgv⟩ := id G.1
  have hL2 := G.2.1
  obtain ⟨vi, va, vg⟩ := V
  have hf : (2000 + N) + 0 ≤ room_1.cells ∧ (700000 + 3 * N) + 0 ≤ room_1.slots := ⟨by show 2000 + N + 0 ≤ 600000; omega, by show 700000 + 3 * N + 0 ≤ 7302250; omega⟩
  have h600 : 0 ≤ (N : Int) ∧ (N : Int) ≤ 600 := ⟨by omega, by omega⟩
  refine lv_aload_n hx hb dL_law_1350 rfl (lv_at hl 2 rfl) ?_
  refine lw_cX T (lw_runX (As := []) (rest := []) G T.1 T.2.2.2.2 (c_X11_forget l D K T.1.1 vi va vg T.1.2.1 a T.1.2.2.2.1.1 T.1.2.2.2.1.2 ) m_X11_forget rfl wm_L_146 ⟨Nat.le_of_ble_eq_true rfl, Nat.le_of_ble_eq_true rfl⟩ hf hl.1 (Nat.le_of_ble_eq_true rfl) dL_law_1351) (fun r V h => h.1) (fun r1 V1 H locs p1 T => ?_)
  refine lv_pop hx hb dL_law_1354 rfl ?_
  refine lv_aload_n hx hb dL_law_1355 rfl (lv_at hl 1 rfl) ?_
  refine lw_cM T (lw_runM (As := []) (rest := []) G T.2.1 T.2.2.2.2 (c2_X12_forget l D Km T.2.1.1 f A T.2.1.2.1 b T.2.1.2.2.2.2.1.1 T.2.1.2.2.2.2.1.2 ) m_X12_forget rfl wm_L_150 ⟨Nat.le_of_ble_eq_true rfl, Nat.le_of_ble_eq_true rfl⟩ hf hl.1 (Nat.le_of_ble_eq_true rfl) dL_law_1356) (fun r f' A' h => ⟨h.1, T.2.1.2.2.1.same (by omega) (h.2.1 40 (by decide)) (h.2.2.1 23 (by decide)) (h.2.2.1 20 (by decide)) (by have h9 := h.2.2.2; have h8 : 0 ≤ (f 11).toInt := T.2.1.2.1.1 11; omega) (by rw [h.2.2.1 9 (by decide)]; omega), h.2.1 43 (by decide)⟩) (fun r2 f2 A2 H locs p2 T9 => ?_)
  refine lv_pop hx hb dL_law_1359 rfl ?_
  refine lv_goto (tgt := 1419) hx hb dL_law_1360 (by decide) ?_
  refine W.widen (k := 2000 + (N + 1)) (n := 700000 + 3 * (N + 1)) (by omega) (by omega) ?_
  exact nx _ _ _ _ _ _ _ T9 hl
set_option maxHeartbeats 4000000 in
set_option maxRecDepth 100000 in
theorem lc_33 (G : lwG p s m meth c sb L xs D) (hi : i.toInt = 5 * (N : Int)) (hL : 5 * N + 5 ≤ L) (T : lwT D s K V a Km f A b (N : Int) H locs) (hl : lv_has ls 4 [(3, .int i), (2, .ref b), (1, .ref a), (0, .ref sb)]) (nx : ∀ (K : zK) (V : zV) (f : Nat → Int32) (A : Nat → Nat → Int32) (H : Heap) (locs : List Loc) (ls : Array Slot), lwT D s K V a Km f A b ((N : Int) + 1) H locs → lv_has ls 4 [(3, .int i), (2, .ref b), (1, .ref a), (0, .ref sb)] → W p l e room_1 s m #[Value.ref sb] below meth c H locs (2000 + (N + 1)) (700000 + 3 * (N + 1)) Q (F0 m 1419 ls [])) : W p l e room_1 s m #[Value.ref sb] below meth c H locs (2000 + N) (700000 + 3 * N) Q (F0 m 1363 ls []) := by
  obtain ⟨hx, hb, hr, hml, hown, hts, hX, hbl, hlocks, hgv⟩ := id G.1
  have hL2 := G.2.1
  obtain ⟨vi, va, vg⟩ := V
  have hf : (2000 + N) + 0 ≤ room_1.cells ∧ (700000 + 3 * N) + 0 ≤ room_1.slots := ⟨by show 2000 + N + 0 ≤ 600000; omega, by show 700000 + 3 * N + 0 ≤ 7302250; omega⟩
  have h600 : 0 ≤ (N : Int) ∧ (N : Int) ≤ 600 := ⟨by omega, by omega⟩
  refine lv_aload_n hx hb dL_law_1363 rfl (lv_at hl 2 rfl) ?_
  refine lw_arg (k := 1) (kv := 1) G T.2.2.2.2 hl hi hL rfl ti_1 (by decide) dL_law_1364 dL_law_1365 dL_law_1366 dL_law_1367 dL_law_1368 ?_
  refine lw_cS (lw_runX (As := [.int (xs (5 * N + 1))]) (rest := []) G T.1 T.2.2.2.2 (c_X11_count l D K T.1.1 vi va vg T.1.2.1 a T.1.2.2.2.1.1 T.1.2.2.2.1.2 (xs (5 * N + 1))) m_X11_count rfl wm_L_151 ⟨Nat.le_of_ble_eq_true rfl, Nat.le_of_ble_eq_true rfl⟩ hf hl.1 (Nat.le_of_ble_eq_true rfl) dL_law_1369) (fun r1 p1 => ?_)
  refine lv_pop hx hb dL_law_1372 rfl ?_
  refine lv_aload_n hx hb dL_law_1373 rfl (lv_at hl 1 rfl) ?_
  refine lw_arg (k := 1) (kv := 1) G T.2.2.2.2 hl hi hL rfl ti_1 (by decide) dL_law_1374 dL_law_1375 dL_law_1376 dL_law_1377 dL_law_1378 ?_
  refine lw_cS (lw_runM (As := [.int (xs (5 * N + 1))]) (rest := []) G T.2.1 T.2.2.2.2 (c_X12_count l D Km T.2.1.1 f A T.2.1.2.1 b T.2.1.2.2.2.2.1.1 T.2.1.2.2.2.2.1.2 (xs (5 * N + 1))) m_X12_count rfl wm_L_154 ⟨Nat.le_of_ble_eq_true rfl, Nat.le_of_ble_eq_true rfl⟩ hf hl.1 (Nat.le_of_ble_eq_true rfl) dL_law_1379) (fun r2 p2 => ?_)
  have T9 := T.up
  refine lv_pop hx hb dL_law_1382 rfl ?_
  refine lv_goto (tgt := 1419) hx hb dL_law_1383 (by decide) ?_
  refine W.widen (k := 2000 + (N + 1)) (n := 700000 + 3 * (N + 1)) (by omega) (by omega) ?_
  exact nx _ _ _ _ _ _ _ T9 hl
set_option maxHeartbeats 4000000 in
set_option maxRecDepth 100000 in
theorem lc_34 (G : lwG p s m meth c sb L xs D) (hi : i.toInt = 5 * (N : Int)) (hL : 5 * N + 5 ≤ L) (T : lwT D s K V a Km f A b (N : Int) H locs) (hl : lv_has ls 4 [(3, .int i), (2, .ref b), (1, .ref a), (0, .ref sb)]) (nx : ∀ (K : zK) (V : zV) (f : Nat → Int32) (A : Nat → Nat → Int32) (H : Heap) (locs : List Loc) (ls : Array Slot), lwT D s K V a Km f A b ((N : Int) + 1) H locs → lv_has ls 4 [(3, .int i), (2, .ref b), (1, .ref a), (0, .ref sb)] → W p l e room_1 s m #[Value.ref sb] below meth c H locs (2000 + (N + 1)) (700000 + 3 * (N + 1)) Q (F0 m 1419 ls [])) : W p l e room_1 s m #[Value.ref sb] below meth c H locs (2000 + N) (700000 + 3 * N) Q (F0 m 1386 ls []) := by
  obtain ⟨hx, hb, hr, hml, hown, hts, hX, hbl, hlocks, hgv⟩ := id G.1
  have hL2 := G.2.1
  obtain ⟨vi, va, vg⟩ := V
  have hf : (2000 + N) + 0 ≤ room_1.cells ∧ (700000 + 3 * N) + 0 ≤ room_1.slots := ⟨by show 2000 + N + 0 ≤ 600000; omega, by show 700000 + 3 * N + 0 ≤ 7302250; omega⟩
  have h600 : 0 ≤ (N : Int) ∧ (N : Int) ≤ 600 := ⟨by omega, by omega⟩
  refine lv_aload_n hx hb dL_law_1386 rfl (lv_at hl 2 rfl) ?_
  refine lw_arg (k := 1) (kv := 1) G T.2.2.2.2 hl hi hL rfl ti_1 (by decide) dL_law_1387 dL_law_1388 dL_law_1389 dL_law_1390 dL_law_1391 ?_
  refine lw_arg (k := 2) (kv := 2) G T.2.2.2.2 hl hi hL rfl ti_2 (by decide) dL_law_1392 dL_law_1393 dL_law_1394 dL_law_1395 dL_law_1396 ?_
  refine lw_cS (lw_runX (As := [.int (xs (5 * N + 1)), .int (xs (5 * N + 2))]) (rest := []) G T.1 T.2.2.2.2 (c_X11_status l D K T.1.1 vi va vg T.1.2.1 a T.1.2.2.2.1.1 T.1.2.2.2.1.2 (xs (5 * N + 1)) (xs (5 * N + 2))) m_X11_status rfl wm_L_155 ⟨Nat.le_of_ble_eq_true rfl, Nat.le_of_ble_eq_true rfl⟩ hf hl.1 (Nat.le_of_ble_eq_true rfl) dL_law_1397) (fun r1 p1 => ?_)
  refine lv_pop hx hb dL_law_1400 rfl ?_
  refine lv_aload_n hx hb dL_law_1401 rfl (lv_at hl 1 rfl) ?_
  refine lw_arg (k := 1) (kv := 1) G T.2.2.2.2 hl hi hL rfl ti_1 (by decide) dL_law_1402 dL_law_1403 dL_law_1404 dL_law_1405 dL_law_1406 ?_
  refine lw_arg (k := 2) (kv := 2) G T.2.2.2.2 hl hi hL rfl ti_2 (by decide) dL_law_1407 dL_law_1408 dL_law_1409 dL_law_1410 dL_law_1411 ?_
  refine lw_cS (lw_runM (As := [.int (xs (5 * N + 1)), .int (xs (5 * N + 2))]) (rest := []) G T.2.1 T.2.2.2.2 (c_X12_status l D Km T.2.1.1 f A T.2.1.2.1 b T.2.1.2.2.2.2.1.1 T.2.1.2.2.2.2.1.2 (xs (5 * N + 1)) (xs (5 * N + 2))) m_X12_status rfl wm_L_158 ⟨Nat.le_of_ble_eq_true rfl, Nat.le_of_ble_eq_true rfl⟩ hf hl.1 (Nat.le_of_ble_eq_true rfl) dL_law_1412) (fun r2 p2 => ?_)
  have T9 := T.up
  refine lv_pop hx hb dL_law_1415 rfl ?_
  refine lv_goto (tgt := 1419) hx hb dL_law_1416 (by decide) ?_
  refine W.widen (k := 2000 + (N + 1)) (n := 700000 + 3 * (N + 1)) (by omega) (by omega) ?_
  exact nx _ _ _ _ _ _ _ T9 hl
end LC
