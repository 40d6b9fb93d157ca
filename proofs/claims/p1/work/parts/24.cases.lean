set_option maxHeartbeats 4000000 in
set_option maxRecDepth 100000 in
theorem law_case_27 {p : Program} {l : Launch} {e : Env} {s : State} {m : MethodId} {below : List Frame} {meth : Method} {c : Code} {dC : Nat → ClassId} {dI : Nat → Nat → Nat} {sb : Nat} {xs : Nat → Int32} {a : Nat → Nat} {cG cT : ClassId} {ft : Nat → Option Nat} {TL : va_W} {b : Nat → Nat} {c1 c2 c3 c4 : ClassId} {fk : Nat → Int32} {H : Heap} {locs : List Loc} (C : lw_St p s m meth c dC dI sb xs a cG cT ft TL b c1 c2 c3 c4 fk H locs) {ls : Array Slot} (hl : lv_has ls 4 [(3, .int 0), (2, .ref (b 0)), (1, .ref (a 0)), (0, .ref sb)]) : W p l e room_1 s m #[Value.ref sb] below meth c H locs 1300 700000 (lw_Z below #[Value.ref sb] s) (F0 m 1225 ls []) := by
  obtain ⟨C0, hT, hF, hKX, hKM, hPX, hPM, hDX, hDM, hap, hFX, hFM, hS, hCA0, hCA3, hCA5, hCA10⟩ := C
  obtain ⟨hx, hb, hr, hml, hown, hts, hX, hbl, hlocks, hgv⟩ := id C0
  have hbA : ¬ (fun q : Nat => s.heap.size ≤ q) sb := Nat.not_le.mpr hbl
  obtain ⟨v1, hv1⟩ : ∃ v, xs (1 : Int32).toNatClampNeg = v := ⟨_, rfl⟩
  obtain ⟨v2, hv2⟩ : ∃ v, xs (2 : Int32).toNatClampNeg = v := ⟨_, rfl⟩
  obtain ⟨v3, hv3⟩ : ∃ v, xs (3 : Int32).toNatClampNeg = v := ⟨_, rfl⟩
  obtain ⟨v4, hv4⟩ : ∃ v, xs (4 : Int32).toNatClampNeg = v := ⟨_, rfl⟩
  refine lv_aload_n hx hb dL_law_1225 rfl (lv_at hl 2 rfl) ?_
  refine lv_aload_n hx hb dL_law_1226 rfl (lv_at hl 3 rfl) ?_
  refine lv_iload_n hx hb dL_law_1227 rfl (lv_at hl 0 rfl) ?_
  refine lv_iconst (v := 1) hx hb dL_law_1228 (by decide) ?_
  refine lv_iadd hx hb dL_law_1229 ?_
  refine lv_topi (fun x_1 ex_1 => ?_)
  obtain rfl : x_1 = 1 := ex_1.trans (by decide +kernel)
  refine va_sld hx hb hX hbl hbA hS (by unfold vp_in; decide +kernel) dL_law_1230 ?_
  refine lv_topi (fun x_2 ex_2 => ?_)
  obtain rfl : v1 = x_2 := (ex_2.trans hv1).symm
  refine vp_callSi (va_Run.run (va_runV (As := [.int v1]) (rest := []) ⟨hx, hb, hml, hown, hts⟩ (c_X11_undo l dC dI a cG cT ft TL hT v1) (cwV 1 hts gv_RL_126 rfl rfl rfl (by decide +kernel) ⟨Nat.le_of_ble_eq_true rfl, Nat.le_of_ble_eq_true rfl⟩) ⟨fun a U g mk q => by obtain ⟨q0, qP, qK⟩ := q; exact ⟨q0, qP, va_K.moved (u := U) (U := U.calling g mk a) (Vm.Alike.refl U.vm) qK⟩, va_recv hKX hPX (ci := 10) (q0 := 0) rfl rfl, fun U hU hW => ⟨rfl, by rw [hU]; exact hPX, va_K.moved hW.alike hKX⟩⟩ rfl rfl hl.1 rfl (lv_room (Nat.le_of_ble_eq_true rfl)) dL_law_1231 ⟨Nat.le_of_ble_eq_true rfl, Nat.le_of_ble_eq_true rfl⟩)) (fun r_3 e_3 => ?_)
  refine lv_aload_n hx hb dL_law_1234 rfl (lv_at hl 1 rfl) ?_
  refine lv_aload_n hx hb dL_law_1235 rfl (lv_at hl 3 rfl) ?_
  refine lv_iload_n hx hb dL_law_1236 rfl (lv_at hl 0 rfl) ?_
  refine lv_iconst (v := 1) hx hb dL_law_1237 (by decide) ?_
  refine lv_iadd hx hb dL_law_1238 ?_
  refine lv_topi (fun x_4 ex_4 => ?_)
  obtain rfl : x_4 = 1 := ex_4.trans (by decide +kernel)
  refine va_sld hx hb hX hbl hbA hS (by unfold vp_in; decide +kernel) dL_law_1239 ?_
  refine lv_topi (fun x_5 ex_5 => ?_)
  obtain rfl : v1 = x_5 := (ex_5.trans hv1).symm
  refine vp_callSi (va_Run.run (va_runV (As := [.int v1]) (rest := [.int r_3]) ⟨hx, hb, hml, hown, hts⟩ (c_X12_undo l dC dI b c1 c2 c3 c4 fk hF v1) (cwV 1 hts gv_RL_129 rfl rfl rfl (by decide +kernel) ⟨Nat.le_of_ble_eq_true rfl, Nat.le_of_ble_eq_true rfl⟩) ⟨fun a U g mk q => by obtain ⟨q0, qP, qK⟩ := q; exact ⟨q0, qP, va_K.moved (u := U) (U := U.calling g mk a) (Vm.Alike.refl U.vm) qK⟩, va_recv hKM hPM (ci := 11) (q0 := 0) rfl rfl, fun U hU hW => ⟨rfl, by rw [hU]; exact hPM, va_K.moved hW.alike hKM⟩⟩ rfl rfl hl.1 rfl (lv_room (Nat.le_of_ble_eq_true rfl)) dL_law_1240 ⟨Nat.le_of_ble_eq_true rfl, Nat.le_of_ble_eq_true rfl⟩)) (fun r_6 e_6 => ?_)
  obtain rfl : r_3 = r_6 := e_3.trans e_6.symm
  refine lv_icmp_eq (tgt := 1419) hx hb dL_law_1243 (by decide) (fun c_7 => ?_) (fun c_7 => absurd rfl c_7)
  refine W.widen (k := 1305) (n := 700005) (by omega) (by omega) ?_
  exact law_next C0 hS hl
set_option maxHeartbeats 4000000 in
set_option maxRecDepth 100000 in
theorem law_case_28 {p : Program} {l : Launch} {e : Env} {s : State} {m : MethodId} {below : List Frame} {meth : Method} {c : Code} {dC : Nat → ClassId} {dI : Nat → Nat → Nat} {sb : Nat} {xs : Nat → Int32} {a : Nat → Nat} {cG cT : ClassId} {ft : Nat → Option Nat} {TL : va_W} {b : Nat → Nat} {c1 c2 c3 c4 : ClassId} {fk : Nat → Int32} {H : Heap} {locs : List Loc} (C : lw_St p s m meth c dC dI sb xs a cG cT ft TL b c1 c2 c3 c4 fk H locs) {ls : Array Slot} (hl : lv_has ls 4 [(3, .int 0), (2, .ref (b 0)), (1, .ref (a 0)), (0, .ref sb)]) : W p l e room_1 s m #[Value.ref sb] below meth c H locs 1300 700000 (lw_Z below #[Value.ref sb] s) (F0 m 1248 ls []) := by
  obtain ⟨C0, hT, hF, hKX, hKM, hPX, hPM, hDX, hDM, hap, hFX, hFM, hS, hCA0, hCA3, hCA5, hCA10⟩ := C
  obtain ⟨hx, hb, hr, hml, hown, hts, hX, hbl, hlocks, hgv⟩ := id C0
  have hbA : ¬ (fun q : Nat => s.heap.size ≤ q) sb := Nat.not_le.mpr hbl
  obtain ⟨v1, hv1⟩ : ∃ v, xs (1 : Int32).toNatClampNeg = v := ⟨_, rfl⟩
  obtain ⟨v2, hv2⟩ : ∃ v, xs (2 : Int32).toNatClampNeg = v := ⟨_, rfl⟩
  obtain ⟨v3, hv3⟩ : ∃ v, xs (3 : Int32).toNatClampNeg = v := ⟨_, rfl⟩
  obtain ⟨v4, hv4⟩ : ∃ v, xs (4 : Int32).toNatClampNeg = v := ⟨_, rfl⟩
  refine lv_aload_n hx hb dL_law_1248 rfl (lv_at hl 2 rfl) ?_
  refine lv_aload_n hx hb dL_law_1249 rfl (lv_at hl 3 rfl) ?_
  refine lv_iload_n hx hb dL_law_1250 rfl (lv_at hl 0 rfl) ?_
  refine lv_iconst (v := 1) hx hb dL_law_1251 (by decide) ?_
  refine lv_iadd hx hb dL_law_1252 ?_
  refine lv_topi (fun x_1 ex_1 => ?_)
  obtain rfl : x_1 = 1 := ex_1.trans (by decide +kernel)
  refine va_sld hx hb hX hbl hbA hS (by unfold vp_in; decide +kernel) dL_law_1253 ?_
  refine lv_topi (fun x_2 ex_2 => ?_)
  obtain rfl : v1 = x_2 := (ex_2.trans hv1).symm
  refine vp_callSi (va_Run.run (va_runV (As := [.int v1]) (rest := []) ⟨hx, hb, hml, hown, hts⟩ (c_X11_replay l dC dI a cG cT ft TL hT v1) (cwV 1 hts gv_RL_130 rfl rfl rfl (by decide +kernel) ⟨Nat.le_of_ble_eq_true rfl, Nat.le_of_ble_eq_true rfl⟩) ⟨fun a U g mk q => by obtain ⟨q0, qP, qK⟩ := q; exact ⟨q0, qP, va_K.moved (u := U) (U := U.calling g mk a) (Vm.Alike.refl U.vm) qK⟩, va_recv hKX hPX (ci := 10) (q0 := 0) rfl rfl, fun U hU hW => ⟨rfl, by rw [hU]; exact hPX, va_K.moved hW.alike hKX⟩⟩ rfl rfl hl.1 rfl (lv_room (Nat.le_of_ble_eq_true rfl)) dL_law_1254 ⟨Nat.le_of_ble_eq_true rfl, Nat.le_of_ble_eq_true rfl⟩)) (fun r_3 e_3 => ?_)
  refine lv_aload_n hx hb dL_law_1257 rfl (lv_at hl 1 rfl) ?_
  refine lv_aload_n hx hb dL_law_1258 rfl (lv_at hl 3 rfl) ?_
  refine lv_iload_n hx hb dL_law_1259 rfl (lv_at hl 0 rfl) ?_
  refine lv_iconst (v := 1) hx hb dL_law_1260 (by decide) ?_
  refine lv_iadd hx hb dL_law_1261 ?_
  refine lv_topi (fun x_4 ex_4 => ?_)
  obtain rfl : x_4 = 1 := ex_4.trans (by decide +kernel)
  refine va_sld hx hb hX hbl hbA hS (by unfold vp_in; decide +kernel) dL_law_1262 ?_
  refine lv_topi (fun x_5 ex_5 => ?_)
  obtain rfl : v1 = x_5 := (ex_5.trans hv1).symm
  refine vp_callSi (va_Run.run (va_runV (As := [.int v1]) (rest := [.int r_3]) ⟨hx, hb, hml, hown, hts⟩ (c_X12_replay l dC dI b c1 c2 c3 c4 fk hF v1) (cwV 1 hts gv_RL_133 rfl rfl rfl (by decide +kernel) ⟨Nat.le_of_ble_eq_true rfl, Nat.le_of_ble_eq_true rfl⟩) ⟨fun a U g mk q => by obtain ⟨q0, qP, qK⟩ := q; exact ⟨q0, qP, va_K.moved (u := U) (U := U.calling g mk a) (Vm.Alike.refl U.vm) qK⟩, va_recv hKM hPM (ci := 11) (q0 := 0) rfl rfl, fun U hU hW => ⟨rfl, by rw [hU]; exact hPM, va_K.moved hW.alike hKM⟩⟩ rfl rfl hl.1 rfl (lv_room (Nat.le_of_ble_eq_true rfl)) dL_law_1263 ⟨Nat.le_of_ble_eq_true rfl, Nat.le_of_ble_eq_true rfl⟩)) (fun r_6 e_6 => ?_)
  obtain rfl : r_3 = r_6 := e_3.trans e_6.symm
  refine lv_icmp_eq (tgt := 1419) hx hb dL_law_1266 (by decide) (fun c_7 => ?_) (fun c_7 => absurd rfl c_7)
  refine W.widen (k := 1305) (n := 700005) (by omega) (by omega) ?_
  exact law_next C0 hS hl
set_option maxHeartbeats 4000000 in
set_option maxRecDepth 100000 in
theorem law_case_29 {p : Program} {l : Launch} {e : Env} {s : State} {m : MethodId} {below : List Frame} {meth : Method} {c : Code} {dC : Nat → ClassId} {dI : Nat → Nat → Nat} {sb : Nat} {xs : Nat → Int32} {a : Nat → Nat} {cG cT : ClassId} {ft : Nat → Option Nat} {TL : va_W} {b : Nat → Nat} {c1 c2 c3 c4 : ClassId} {fk : Nat → Int32} {H : Heap} {locs : List Loc} (C : lw_St p s m meth c dC dI sb xs a cG cT ft TL b c1 c2 c3 c4 fk H locs) {ls : Array Slot} (hl : lv_has ls 4 [(3, .int 0), (2, .ref (b 0)), (1, .ref (a 0)), (0, .ref sb)]) : W p l e room_1 s m #[Value.ref sb] below meth c H locs 1300 700000 (lw_Z below #[Value.ref sb] s) (F0 m 1271 ls []) := by
  obtain ⟨C0, hT, hF, hKX, hKM, hPX, hPM, hDX, hDM, hap, hFX, hFM, hS, hCA0, hCA3, hCA5, hCA10⟩ := C
  obtain ⟨hx, hb, hr, hml, hown, hts, hX, hbl, hlocks, hgv⟩ := id C0
  have hbA : ¬ (fun q : Nat => s.heap.size ≤ q) sb := Nat.not_le.mpr hbl
  obtain ⟨v1, hv1⟩ : ∃ v, xs (1 : Int32).toNatClampNeg = v := ⟨_, rfl⟩
  obtain ⟨v2, hv2⟩ : ∃ v, xs (2 : Int32).toNatClampNeg = v := ⟨_, rfl⟩
  obtain ⟨v3, hv3⟩ : ∃ v, xs (3 : Int32).toNatClampNeg = v := ⟨_, rfl⟩
  obtain ⟨v4, hv4⟩ : ∃ v, xs (4 : Int32).toNatClampNeg = v := ⟨_, rfl⟩
  refine lv_aload_n hx hb dL_law_1271 rfl (lv_at hl 2 rfl) ?_
  refine lv_aload_n hx hb dL_law_1272 rfl (lv_at hl 3 rfl) ?_
  refine lv_iload_n hx hb dL_law_1273 rfl (lv_at hl 0 rfl) ?_
  refine lv_iconst (v := 1) hx hb dL_law_1274 (by decide) ?_
  refine lv_iadd hx hb dL_law_1275 ?_
  refine lv_topi (fun x_1 ex_1 => ?_)
  obtain rfl : x_1 = 1 := ex_1.trans (by decide +kernel)
  refine va_sld hx hb hX hbl hbA hS (by unfold vp_in; decide +kernel) dL_law_1276 ?_
  refine lv_topi (fun x_2 ex_2 => ?_)
  obtain rfl : v1 = x_2 := (ex_2.trans hv1).symm
  refine vp_callSi (va_Run.run (va_runV (As := [.int v1]) (rest := []) ⟨hx, hb, hml, hown, hts⟩ (c_X11_digest l dC dI a cG cT ft TL hT v1) (cwV 1 hts gv_RL_134 rfl rfl rfl (by decide +kernel) ⟨Nat.le_of_ble_eq_true rfl, Nat.le_of_ble_eq_true rfl⟩) ⟨fun a U g mk q => by obtain ⟨q0, qP, qK⟩ := q; exact ⟨q0, qP, va_K.moved (u := U) (U := U.calling g mk a) (Vm.Alike.refl U.vm) qK⟩, va_recv hKX hPX (ci := 10) (q0 := 0) rfl rfl, fun U hU hW => ⟨rfl, by rw [hU]; exact hPX, va_K.moved hW.alike hKX⟩⟩ rfl rfl hl.1 rfl (lv_room (Nat.le_of_ble_eq_true rfl)) dL_law_1277 ⟨Nat.le_of_ble_eq_true rfl, Nat.le_of_ble_eq_true rfl⟩)) (fun r_3 e_3 => ?_)
  refine lv_aload_n hx hb dL_law_1280 rfl (lv_at hl 1 rfl) ?_
  refine lv_aload_n hx hb dL_law_1281 rfl (lv_at hl 3 rfl) ?_
  refine lv_iload_n hx hb dL_law_1282 rfl (lv_at hl 0 rfl) ?_
  refine lv_iconst (v := 1) hx hb dL_law_1283 (by decide) ?_
  refine lv_iadd hx hb dL_law_1284 ?_
  refine lv_topi (fun x_4 ex_4 => ?_)
  obtain rfl : x_4 = 1 := ex_4.trans (by decide +kernel)
  refine va_sld hx hb hX hbl hbA hS (by unfold vp_in; decide +kernel) dL_law_1285 ?_
  refine lv_topi (fun x_5 ex_5 => ?_)
  obtain rfl : v1 = x_5 := (ex_5.trans hv1).symm
  refine vp_callSi (va_Run.run (va_runV (As := [.int v1]) (rest := [.int r_3]) ⟨hx, hb, hml, hown, hts⟩ (c_X12_digest l dC dI b c1 c2 c3 c4 fk hF v1) (cwV 1 hts gv_RL_137 rfl rfl rfl (by decide +kernel) ⟨Nat.le_of_ble_eq_true rfl, Nat.le_of_ble_eq_true rfl⟩) ⟨fun a U g mk q => by obtain ⟨q0, qP, qK⟩ := q; exact ⟨q0, qP, va_K.moved (u := U) (U := U.calling g mk a) (Vm.Alike.refl U.vm) qK⟩, va_recv hKM hPM (ci := 11) (q0 := 0) rfl rfl, fun U hU hW => ⟨rfl, by rw [hU]; exact hPM, va_K.moved hW.alike hKM⟩⟩ rfl rfl hl.1 rfl (lv_room (Nat.le_of_ble_eq_true rfl)) dL_law_1286 ⟨Nat.le_of_ble_eq_true rfl, Nat.le_of_ble_eq_true rfl⟩)) (fun r_6 e_6 => ?_)
  obtain rfl : r_3 = r_6 := e_3.trans e_6.symm
  refine lv_icmp_eq (tgt := 1419) hx hb dL_law_1289 (by decide) (fun c_7 => ?_) (fun c_7 => absurd rfl c_7)
  refine W.widen (k := 1305) (n := 700005) (by omega) (by omega) ?_
  exact law_next C0 hS hl
set_option maxHeartbeats 4000000 in
set_option maxRecDepth 100000 in
theorem law_case_30 {p : Program} {l : Launch} {e : Env} {s : State} {m : MethodId} {below : List Frame} {meth : Method} {c : Code} {dC : Nat → ClassId} {dI : Nat → Nat → Nat} {sb : Nat} {xs : Nat → Int32} {a : Nat → Nat} {cG cT : ClassId} {ft : Nat → Option Nat} {TL : va_W} {b : Nat → Nat} {c1 c2 c3 c4 : ClassId} {fk : Nat → Int32} {H : Heap} {locs : List Loc} (C : lw_St p s m meth c dC dI sb xs a cG cT ft TL b c1 c2 c3 c4 fk H locs) {ls : Array Slot} (hl : lv_has ls 4 [(3, .int 0), (2, .ref (b 0)), (1, .ref (a 0)), (0, .ref sb)]) : W p l e room_1 s m #[Value.ref sb] below meth c H locs 1300 700000 (lw_Z below #[Value.ref sb] s) (F0 m 1294 ls []) := by
  obtain ⟨C0, hT, hF, hKX, hKM, hPX, hPM, hDX, hDM, hap, hFX, hFM, hS, hCA0, hCA3, hCA5, hCA10⟩ := C
  obtain ⟨hx, hb, hr, hml, hown, hts, hX, hbl, hlocks, hgv⟩ := id C0
  have hbA : ¬ (fun q : Nat => s.heap.size ≤ q) sb := Nat.not_le.mpr hbl
  obtain ⟨v1, hv1⟩ : ∃ v, xs (1 : Int32).toNatClampNeg = v := ⟨_, rfl⟩
  obtain ⟨v2, hv2⟩ : ∃ v, xs (2 : Int32).toNatClampNeg = v := ⟨_, rfl⟩
  obtain ⟨v3, hv3⟩ : ∃ v, xs (3 : Int32).toNatClampNeg = v := ⟨_, rfl⟩
  obtain ⟨v4, hv4⟩ : ∃ v, xs (4 : Int32).toNatClampNeg = v := ⟨_, rfl⟩
  refine lv_aload_n hx hb dL_law_1294 rfl (lv_at hl 2 rfl) ?_
  refine lv_aload_n hx hb dL_law_1295 rfl (lv_at hl 3 rfl) ?_
  refine lv_iload_n hx hb dL_law_1296 rfl (lv_at hl 0 rfl) ?_
  refine lv_iconst (v := 1) hx hb dL_law_1297 (by decide) ?_
  refine lv_iadd hx hb dL_law_1298 ?_
  refine lv_topi (fun x_1 ex_1 => ?_)
  obtain rfl : x_1 = 1 := ex_1.trans (by decide +kernel)
  refine va_sld hx hb hX hbl hbA hS (by unfold vp_in; decide +kernel) dL_law_1299 ?_
  refine lv_topi (fun x_2 ex_2 => ?_)
  obtain rfl : v1 = x_2 := (ex_2.trans hv1).symm
  refine lv_aload_n hx hb dL_law_1300 rfl (lv_at hl 3 rfl) ?_
  refine lv_iload_n hx hb dL_law_1301 rfl (lv_at hl 0 rfl) ?_
  refine lv_iconst (v := 2) hx hb dL_law_1302 (by decide) ?_
  refine lv_iadd hx hb dL_law_1303 ?_
  refine lv_topi (fun x_3 ex_3 => ?_)
  obtain rfl : x_3 = 2 := ex_3.trans (by decide +kernel)
  refine va_sld hx hb hX hbl hbA hS (by unfold vp_in; decide +kernel) dL_law_1304 ?_
  refine lv_topi (fun x_4 ex_4 => ?_)
  obtain rfl : v2 = x_4 := (ex_4.trans hv2).symm
  refine vp_callSi (va_Run.run (va_runV (As := [.int v1, .int v2]) (rest := []) ⟨hx, hb, hml, hown, hts⟩ (c_X11_finding l dC dI a cG cT ft TL hT v1 v2) (cwV 2 hts gv_RL_138 rfl rfl rfl (by decide +kernel) ⟨Nat.le_of_ble_eq_true rfl, Nat.le_of_ble_eq_true rfl⟩) ⟨fun a U g mk q => by obtain ⟨q0, qP, qK⟩ := q; exact ⟨q0, qP, va_K.moved (u := U) (U := U.calling g mk a) (Vm.Alike.refl U.vm) qK⟩, va_recv hKX hPX (ci := 10) (q0 := 0) rfl rfl, fun U hU hW => ⟨rfl, by rw [hU]; exact hPX, va_K.moved hW.alike hKX⟩⟩ rfl rfl hl.1 rfl (lv_room (Nat.le_of_ble_eq_true rfl)) dL_law_1305 ⟨Nat.le_of_ble_eq_true rfl, Nat.le_of_ble_eq_true rfl⟩)) (fun r_5 e_5 => ?_)
  refine lv_aload_n hx hb dL_law_1308 rfl (lv_at hl 1 rfl) ?_
  refine lv_aload_n hx hb dL_law_1309 rfl (lv_at hl 3 rfl) ?_
  refine lv_iload_n hx hb dL_law_1310 rfl (lv_at hl 0 rfl) ?_
  refine lv_iconst (v := 1) hx hb dL_law_1311 (by decide) ?_
  refine lv_iadd hx hb dL_law_1312 ?_
  refine lv_topi (fun x_6 ex_6 => ?_)
  obtain rfl : x_6 = 1 := ex_6.trans (by decide +kernel)
  refine va_sld hx hb hX hbl hbA hS (by unfold vp_in; decide +kernel) dL_law_1313 ?_
  refine lv_topi (fun x_7 ex_7 => ?_)
  obtain rfl : v1 = x_7 := (ex_7.trans hv1).symm
  refine lv_aload_n hx hb dL_law_1314 rfl (lv_at hl 3 rfl) ?_
  refine lv_iload_n hx hb dL_law_1315 rfl (lv_at hl 0 rfl) ?_
  refine lv_iconst (v := 2) hx hb dL_law_1316 (by decide) ?_
  refine lv_iadd hx hb dL_law_1317 ?_
  refine lv_topi (fun x_8 ex_8 => ?_)
  obtain rfl : x_8 = 2 := ex_8.trans (by decide +kernel)
  refine va_sld hx hb hX hbl hbA hS (by unfold vp_in; decide +kernel) dL_law_1318 ?_
  refine lv_topi (fun x_9 ex_9 => ?_)
  obtain rfl : v2 = x_9 := (ex_9.trans hv2).symm
  refine vp_callSi (va_Run.run (va_runV (As := [.int v1, .int v2]) (rest := [.int r_5]) ⟨hx, hb, hml, hown, hts⟩ (c_X12_finding l dC dI b c1 c2 c3 c4 fk hF v1 v2) (cwV 2 hts gv_RL_141 rfl rfl rfl (by decide +kernel) ⟨Nat.le_of_ble_eq_true rfl, Nat.le_of_ble_eq_true rfl⟩) ⟨fun a U g mk q => by obtain ⟨q0, qP, qK⟩ := q; exact ⟨q0, qP, va_K.moved (u := U) (U := U.calling g mk a) (Vm.Alike.refl U.vm) qK⟩, va_recv hKM hPM (ci := 11) (q0 := 0) rfl rfl, fun U hU hW => ⟨rfl, by rw [hU]; exact hPM, va_K.moved hW.alike hKM⟩⟩ rfl rfl hl.1 rfl (lv_room (Nat.le_of_ble_eq_true rfl)) dL_law_1319 ⟨Nat.le_of_ble_eq_true rfl, Nat.le_of_ble_eq_true rfl⟩)) (fun r_10 e_10 => ?_)
  obtain rfl : r_5 = r_10 := e_5.trans e_10.symm
  refine lv_icmp_eq (tgt := 1419) hx hb dL_law_1322 (by decide) (fun c_11 => ?_) (fun c_11 => absurd rfl c_11)
  refine W.widen (k := 1305) (n := 700005) (by omega) (by omega) ?_
  exact law_next C0 hS hl
set_option maxHeartbeats 4000000 in
set_option maxRecDepth 100000 in
theorem law_case_31 {p : Program} {l : Launch} {e : Env} {s : State} {m : MethodId} {below : List Frame} {meth : Method} {c : Code} {dC : Nat → ClassId} {dI : Nat → Nat → Nat} {sb : Nat} {xs : Nat → Int32} {a : Nat → Nat} {cG cT : ClassId} {ft : Nat → Option Nat} {TL : va_W} {b : Nat → Nat} {c1 c2 c3 c4 : ClassId} {fk : Nat → Int32} {H : Heap} {locs : List Loc} (C : lw_St p s m meth c dC dI sb xs a cG cT ft TL b c1 c2 c3 c4 fk H locs) {ls : Array Slot} (hl : lv_has ls 4 [(3, .int 0), (2, .ref (b 0)), (1, .ref (a 0)), (0, .ref sb)]) : W p l e room_1 s m #[Value.ref sb] below meth c H locs 1300 700000 (lw_Z below #[Value.ref sb] s) (F0 m 1327 ls []) := by
  obtain ⟨C0, hT, hF, hKX, hKM, hPX, hPM, hDX, hDM, hap, hFX, hFM, hS, hCA0, hCA3, hCA5, hCA10⟩ := C
  obtain ⟨hx, hb, hr, hml, hown, hts, hX, hbl, hlocks, hgv⟩ := id C0
  have hbA : ¬ (fun q : Nat => s.heap.size ≤ q) sb := Nat.not_le.mpr hbl
  obtain ⟨v1, hv1⟩ : ∃ v, xs (1 : Int32).toNatClampNeg = v := ⟨_, rfl⟩
  obtain ⟨v2, hv2⟩ : ∃ v, xs (2 : Int32).toNatClampNeg = v := ⟨_, rfl⟩
  obtain ⟨v3, hv3⟩ : ∃ v, xs (3 : Int32).toNatClampNeg = v := ⟨_, rfl⟩
  obtain ⟨v4, hv4⟩ : ∃ v, xs (4 : Int32).toNatClampNeg = v := ⟨_, rfl⟩
  refine lv_aload_n hx hb dL_law_1327 rfl (lv_at hl 2 rfl) ?_
  refine lv_aload_n hx hb dL_law_1328 rfl (lv_at hl 3 rfl) ?_
  refine lv_iload_n hx hb dL_law_1329 rfl (lv_at hl 0 rfl) ?_
  refine lv_iconst (v := 1) hx hb dL_law_1330 (by decide) ?_
  refine lv_iadd hx hb dL_law_1331 ?_
  refine lv_topi (fun x_1 ex_1 => ?_)
  obtain rfl : x_1 = 1 := ex_1.trans (by decide +kernel)
  refine va_sld hx hb hX hbl hbA hS (by unfold vp_in; decide +kernel) dL_law_1332 ?_
  refine lv_topi (fun x_2 ex_2 => ?_)
  obtain rfl : v1 = x_2 := (ex_2.trans hv1).symm
  refine vp_callSi (va_Run.run (va_runV (As := [.int v1]) (rest := []) ⟨hx, hb, hml, hown, hts⟩ (c_X11_trace l dC dI a cG cT ft TL hT v1) (cwV 1 hts gv_RL_142 rfl rfl rfl (by decide +kernel) ⟨Nat.le_of_ble_eq_true rfl, Nat.le_of_ble_eq_true rfl⟩) ⟨fun a U g mk q => by obtain ⟨q0, qP, qK⟩ := q; exact ⟨q0, qP, va_K.moved (u := U) (U := U.calling g mk a) (Vm.Alike.refl U.vm) qK⟩, va_recv hKX hPX (ci := 10) (q0 := 0) rfl rfl, fun U hU hW => ⟨rfl, by rw [hU]; exact hPX, va_K.moved hW.alike hKX⟩⟩ rfl rfl hl.1 rfl (lv_room (Nat.le_of_ble_eq_true rfl)) dL_law_1333 ⟨Nat.le_of_ble_eq_true rfl, Nat.le_of_ble_eq_true rfl⟩)) (fun r_3 e_3 => ?_)
  refine lv_aload_n hx hb dL_law_1336 rfl (lv_at hl 1 rfl) ?_
  refine lv_aload_n hx hb dL_law_1337 rfl (lv_at hl 3 rfl) ?_
  refine lv_iload_n hx hb dL_law_1338 rfl (lv_at hl 0 rfl) ?_
  refine lv_iconst (v := 1) hx hb dL_law_1339 (by decide) ?_
  refine lv_iadd hx hb dL_law_1340 ?_
  refine lv_topi (fun x_4 ex_4 => ?_)
  obtain rfl : x_4 = 1 := ex_4.trans (by decide +kernel)
  refine va_sld hx hb hX hbl hbA hS (by unfold vp_in; decide +kernel) dL_law_1341 ?_
  refine lv_topi (fun x_5 ex_5 => ?_)
  obtain rfl : v1 = x_5 := (ex_5.trans hv1).symm
  refine vp_callSi (va_Run.run (va_runV (As := [.int v1]) (rest := [.int r_3]) ⟨hx, hb, hml, hown, hts⟩ (c_X12_trace l dC dI b c1 c2 c3 c4 fk hF v1) (cwV 1 hts gv_RL_145 rfl rfl rfl (by decide +kernel) ⟨Nat.le_of_ble_eq_true rfl, Nat.le_of_ble_eq_true rfl⟩) ⟨fun a U g mk q => by obtain ⟨q0, qP, qK⟩ := q; exact ⟨q0, qP, va_K.moved (u := U) (U := U.calling g mk a) (Vm.Alike.refl U.vm) qK⟩, va_recv hKM hPM (ci := 11) (q0 := 0) rfl rfl, fun U hU hW => ⟨rfl, by rw [hU]; exact hPM, va_K.moved hW.alike hKM⟩⟩ rfl rfl hl.1 rfl (lv_room (Nat.le_of_ble_eq_true rfl)) dL_law_1342 ⟨Nat.le_of_ble_eq_true rfl, Nat.le_of_ble_eq_true rfl⟩)) (fun r_6 e_6 => ?_)
  obtain rfl : r_3 = r_6 := e_3.trans e_6.symm
  refine lv_icmp_eq (tgt := 1419) hx hb dL_law_1345 (by decide) (fun c_7 => ?_) (fun c_7 => absurd rfl c_7)
  refine W.widen (k := 1305) (n := 700005) (by omega) (by omega) ?_
  exact law_next C0 hS hl
set_option maxHeartbeats 4000000 in
set_option maxRecDepth 100000 in
theorem law_case_32 {p : Program} {l : Launch} {e : Env} {s : State} {m : MethodId} {below : List Frame} {meth : Method} {c : Code} {dC : Nat → ClassId} {dI : Nat → Nat → Nat} {sb : Nat} {xs : Nat → Int32} {a : Nat → Nat} {cG cT : ClassId} {ft : Nat → Option Nat} {TL : va_W} {b : Nat → Nat} {c1 c2 c3 c4 : ClassId} {fk : Nat → Int32} {H : Heap} {locs : List Loc} (C : lw_St p s m meth c dC dI sb xs a cG cT ft TL b c1 c2 c3 c4 fk H locs) {ls : Array Slot} (hl : lv_has ls 4 [(3, .int 0), (2, .ref (b 0)), (1, .ref (a 0)), (0, .ref sb)]) : W p l e room_1 s m #[Value.ref sb] below meth c H locs 1300 700000 (lw_Z below #[Value.ref sb] s) (F0 m 1350 ls []) := by
  obtain ⟨C0, hT, hF, hKX, hKM, hPX, hPM, hDX, hDM, hap, hFX, hFM, hS, hCA0, hCA3, hCA5, hCA10⟩ := C
  obtain ⟨hx, hb, hr, hml, hown, hts, hX, hbl, hlocks, hgv⟩ := id C0
  have hbA : ¬ (fun q : Nat => s.heap.size ≤ q) sb := Nat.not_le.mpr hbl
  obtain ⟨v1, hv1⟩ : ∃ v, xs (1 : Int32).toNatClampNeg = v := ⟨_, rfl⟩
  obtain ⟨v2, hv2⟩ : ∃ v, xs (2 : Int32).toNatClampNeg = v := ⟨_, rfl⟩
  obtain ⟨v3, hv3⟩ : ∃ v, xs (3 : Int32).toNatClampNeg = v := ⟨_, rfl⟩
  obtain ⟨v4, hv4⟩ : ∃ v, xs (4 : Int32).toNatClampNeg = v := ⟨_, rfl⟩
  refine lv_aload_n hx hb dL_law_1350 rfl (lv_at hl 2 rfl) ?_
  refine va_calli (va_runV (As := []) (rest := []) ⟨hx, hb, hml, hown, hts⟩ (c_X11_forget l dC dI a cG cT ft TL hT H.size ) (cwV 0 hts gv_RL_146 rfl rfl rfl (by decide +kernel) ⟨Nat.le_of_ble_eq_true rfl, Nat.le_of_ble_eq_true rfl⟩) ⟨fun a U g mk q => by obtain ⟨q0, q1, qP, qK, qD⟩ := q; exact ⟨q0, q1, qP, va_K.moved (u := U) (U := U.calling g mk a) (Vm.Alike.refl U.vm) qK, qD⟩, va_recv hKX hPX (ci := 10) (q0 := 0) rfl rfl, fun U hU hW => ⟨rfl, by rw [hU], by rw [hU]; exact hPX, va_K.moved hW.alike hKX, hDX⟩⟩ rfl rfl hl.1 rfl (lv_room (Nat.le_of_ble_eq_true rfl)) dL_law_1351 ⟨Nat.le_of_ble_eq_true rfl, Nat.le_of_ble_eq_true rfl⟩) hS (fun q _ h => hFX q h) hFX (fun r_1 u t H1 locs ht hvm e_1 hB hz1 hk1 hS => ?_)
  have hPM : va_P (dC, dI) vwCl (wM b c1 c2 c3 c4 fk) H1 := fun k q h => (hPM k q h).kept (hk1 q.1 (hap k q h).1 (hap k q h).2)
  have hFM : ∀ q, va_A (wM b c1 c2 c3 c4 fk) H1.size q → s.heap.size ≤ q := fun q h => h.elim (fun h => hFM q (Or.inl h)) (fun h => Nat.le_trans hS.1 h)
  refine W.widen (k := 1302) (n := 700002) (by omega) (by omega) ?_
  refine lv_aload_n hx hb dL_law_1354 rfl (lv_at hl 1 rfl) ?_
  refine va_calli (va_runV (As := []) (rest := [.int r_1]) ⟨hx, hb, hml, hown, hts⟩ (c_X12_forget l dC dI b c1 c2 c3 c4 fk hF H1.size ) (cwV 0 hts gv_RL_150 rfl rfl rfl (by decide +kernel) ⟨Nat.le_of_ble_eq_true rfl, Nat.le_of_ble_eq_true rfl⟩) ⟨fun a U g mk q => by obtain ⟨q0, q1, qP, qK, qD⟩ := q; exact ⟨q0, q1, qP, va_K.moved (u := U) (U := U.calling g mk a) (Vm.Alike.refl U.vm) qK, qD⟩, va_recv hKM hPM (ci := 11) (q0 := 0) rfl rfl, fun U hU hW => ⟨rfl, by rw [hU], by rw [hU]; exact hPM, va_K.moved hW.alike hKM, hDM⟩⟩ rfl rfl hl.1 rfl (lv_room (Nat.le_of_ble_eq_true rfl)) dL_law_1355 ⟨Nat.le_of_ble_eq_true rfl, Nat.le_of_ble_eq_true rfl⟩) hS (fun q _ h => hFM q h) hFM (fun r_2 u t H2 locs ht hvm e_2 hB hz1 hk1 hS => ?_)
  refine W.widen (k := 1304) (n := 700004) (by omega) (by omega) ?_
  obtain rfl : r_1 = r_2 := e_1.trans e_2.symm
  refine lv_icmp_eq (tgt := 1419) hx hb dL_law_1358 (by decide) (fun c_3 => ?_) (fun c_3 => absurd rfl c_3)
  refine W.widen (k := 1305) (n := 700005) (by omega) (by omega) ?_
  exact law_next C0 hS hl
set_option maxHeartbeats 4000000 in
set_option maxRecDepth 100000 in
theorem law_case_33 {p : Program} {l : Launch} {e : Env} {s : State} {m : MethodId} {below : List Frame} {meth : Method} {c : Code} {dC : Nat → ClassId} {dI : Nat → Nat → Nat} {sb : Nat} {xs : Nat → Int32} {a : Nat → Nat} {cG cT : ClassId} {ft : Nat → Option Nat} {TL : va_W} {b : Nat → Nat} {c1 c2 c3 c4 : ClassId} {fk : Nat → Int32} {H : Heap} {locs : List Loc} (C : lw_St p s m meth c dC dI sb xs a cG cT ft TL b c1 c2 c3 c4 fk H locs) {ls : Array Slot} (hl : lv_has ls 4 [(3, .int 0), (2, .ref (b 0)), (1, .ref (a 0)), (0, .ref sb)]) : W p l e room_1 s m #[Value.ref sb] below meth c H locs 1300 700000 (lw_Z below #[Value.ref sb] s) (F0 m 1363 ls []) := by
  obtain ⟨C0, hT, hF, hKX, hKM, hPX, hPM, hDX, hDM, hap, hFX, hFM, hS, hCA0, hCA3, hCA5, hCA10⟩ := C
  obtain ⟨hx, hb, hr, hml, hown, hts, hX, hbl, hlocks, hgv⟩ := id C0
  have hbA : ¬ (fun q : Nat => s.heap.size ≤ q) sb := Nat.not_le.mpr hbl
  obtain ⟨v1, hv1⟩ : ∃ v, xs (1 : Int32).toNatClampNeg = v := ⟨_, rfl⟩
  obtain ⟨v2, hv2⟩ : ∃ v, xs (2 : Int32).toNatClampNeg = v := ⟨_, rfl⟩
  obtain ⟨v3, hv3⟩ : ∃ v, xs (3 : Int32).toNatClampNeg = v := ⟨_, rfl⟩
  obtain ⟨v4, hv4⟩ : ∃ v, xs (4 : Int32).toNatClampNeg = v := ⟨_, rfl⟩
  refine lv_aload_n hx hb dL_law_1363 rfl (lv_at hl 2 rfl) ?_
  refine lv_aload_n hx hb dL_law_1364 rfl (lv_at hl 3 rfl) ?_
  refine lv_iload_n hx hb dL_law_1365 rfl (lv_at hl 0 rfl) ?_
  refine lv_iconst (v := 1) hx hb dL_law_1366 (by decide) ?_
  refine lv_iadd hx hb dL_law_1367 ?_
  refine lv_topi (fun x_1 ex_1 => ?_)
  obtain rfl : x_1 = 1 := ex_1.trans (by decide +kernel)
  refine va_sld hx hb hX hbl hbA hS (by unfold vp_in; decide +kernel) dL_law_1368 ?_
  refine lv_topi (fun x_2 ex_2 => ?_)
  obtain rfl : v1 = x_2 := (ex_2.trans hv1).symm
  refine vp_callSi (va_Run.run (va_runV (As := [.int v1]) (rest := []) ⟨hx, hb, hml, hown, hts⟩ (c_X11_count l dC dI a cG cT ft TL hT v1) (cwV 1 hts gv_RL_151 rfl rfl rfl (by decide +kernel) ⟨Nat.le_of_ble_eq_true rfl, Nat.le_of_ble_eq_true rfl⟩) ⟨fun a U g mk q => by obtain ⟨q0, qP, qK⟩ := q; exact ⟨q0, qP, va_K.moved (u := U) (U := U.calling g mk a) (Vm.Alike.refl U.vm) qK⟩, va_recv hKX hPX (ci := 10) (q0 := 0) rfl rfl, fun U hU hW => ⟨rfl, by rw [hU]; exact hPX, va_K.moved hW.alike hKX⟩⟩ rfl rfl hl.1 rfl (lv_room (Nat.le_of_ble_eq_true rfl)) dL_law_1369 ⟨Nat.le_of_ble_eq_true rfl, Nat.le_of_ble_eq_true rfl⟩)) (fun r_3 e_3 => ?_)
  refine lv_aload_n hx hb dL_law_1372 rfl (lv_at hl 1 rfl) ?_
  refine lv_aload_n hx hb dL_law_1373 rfl (lv_at hl 3 rfl) ?_
  refine lv_iload_n hx hb dL_law_1374 rfl (lv_at hl 0 rfl) ?_
  refine lv_iconst (v := 1) hx hb dL_law_1375 (by decide) ?_
  refine lv_iadd hx hb dL_law_1376 ?_
  refine lv_topi (fun x_4 ex_4 => ?_)
  obtain rfl : x_4 = 1 := ex_4.trans (by decide +kernel)
  refine va_sld hx hb hX hbl hbA hS (by unfold vp_in; decide +kernel) dL_law_1377 ?_
  refine lv_topi (fun x_5 ex_5 => ?_)
  obtain rfl : v1 = x_5 := (ex_5.trans hv1).symm
  refine vp_callSi (va_Run.run (va_runV (As := [.int v1]) (rest := [.int r_3]) ⟨hx, hb, hml, hown, hts⟩ (c_X12_count l dC dI b c1 c2 c3 c4 fk hF v1) (cwV 1 hts gv_RL_154 rfl rfl rfl (by decide +kernel) ⟨Nat.le_of_ble_eq_true rfl, Nat.le_of_ble_eq_true rfl⟩) ⟨fun a U g mk q => by obtain ⟨q0, qP, qK⟩ := q; exact ⟨q0, qP, va_K.moved (u := U) (U := U.calling g mk a) (Vm.Alike.refl U.vm) qK⟩, va_recv hKM hPM (ci := 11) (q0 := 0) rfl rfl, fun U hU hW => ⟨rfl, by rw [hU]; exact hPM, va_K.moved hW.alike hKM⟩⟩ rfl rfl hl.1 rfl (lv_room (Nat.le_of_ble_eq_true rfl)) dL_law_1378 ⟨Nat.le_of_ble_eq_true rfl, Nat.le_of_ble_eq_true rfl⟩)) (fun r_6 e_6 => ?_)
  obtain rfl : r_3 = r_6 := e_3.trans e_6.symm
  refine lv_icmp_eq (tgt := 1419) hx hb dL_law_1381 (by decide) (fun c_7 => ?_) (fun c_7 => absurd rfl c_7)
  refine W.widen (k := 1305) (n := 700005) (by omega) (by omega) ?_
  exact law_next C0 hS hl
set_option maxHeartbeats 4000000 in
set_option maxRecDepth 100000 in
theorem law_case_34 {p : Program} {l : Launch} {e : Env} {s : State} {m : MethodId} {below : List Frame} {meth : Method} {c : Code} {dC : Nat → ClassId} {dI : Nat → Nat → Nat} {sb : Nat} {xs : Nat → Int32} {a : Nat → Nat} {cG cT : ClassId} {ft : Nat → Option Nat} {TL : va_W} {b : Nat → Nat} {c1 c2 c3 c4 : ClassId} {fk : Nat → Int32} {H : Heap} {locs : List Loc} (C : lw_St p s m meth c dC dI sb xs a cG cT ft TL b c1 c2 c3 c4 fk H locs) {ls : Array Slot} (hl : lv_has ls 4 [(3, .int 0), (2, .ref (b 0)), (1, .ref (a 0)), (0, .ref sb)]) : W p l e room_1 s m #[Value.ref sb] below meth c H locs 1300 700000 (lw_Z below #[Value.ref sb] s) (F0 m 1386 ls []) := by
  obtain ⟨C0, hT, hF, hKX, hKM, hPX, hPM, hDX, hDM, hap, hFX, hFM, hS, hCA0, hCA3, hCA5, hCA10⟩ := C
  obtain ⟨hx, hb, hr, hml, hown, hts, hX, hbl, hlocks, hgv⟩ := id C0
  have hbA : ¬ (fun q : Nat => s.heap.size ≤ q) sb := Nat.not_le.mpr hbl
  obtain ⟨v1, hv1⟩ : ∃ v, xs (1 : Int32).toNatClampNeg = v := ⟨_, rfl⟩
  obtain ⟨v2, hv2⟩ : ∃ v, xs (2 : Int32).toNatClampNeg = v := ⟨_, rfl⟩
  obtain ⟨v3, hv3⟩ : ∃ v, xs (3 : Int32).toNatClampNeg = v := ⟨_, rfl⟩
  obtain ⟨v4, hv4⟩ : ∃ v, xs (4 : Int32).toNatClampNeg = v := ⟨_, rfl⟩
  refine lv_aload_n hx hb dL_law_1386 rfl (lv_at hl 2 rfl) ?_
  refine lv_aload_n hx hb dL_law_1387 rfl (lv_at hl 3 rfl) ?_
  refine lv_iload_n hx hb dL_law_1388 rfl (lv_at hl 0 rfl) ?_
  refine lv_iconst (v := 1) hx hb dL_law_1389 (by decide) ?_
  refine lv_iadd hx hb dL_law_1390 ?_
  refine lv_topi (fun x_1 ex_1 => ?_)
  obtain rfl : x_1 = 1 := ex_1.trans (by decide +kernel)
  refine va_sld hx hb hX hbl hbA hS (by unfold vp_in; decide +kernel) dL_law_1391 ?_
  refine lv_topi (fun x_2 ex_2 => ?_)
  obtain rfl : v1 = x_2 := (ex_2.trans hv1).symm
  refine lv_aload_n hx hb dL_law_1392 rfl (lv_at hl 3 rfl) ?_
  refine lv_iload_n hx hb dL_law_1393 rfl (lv_at hl 0 rfl) ?_
  refine lv_iconst (v := 2) hx hb dL_law_1394 (by decide) ?_
  refine lv_iadd hx hb dL_law_1395 ?_
  refine lv_topi (fun x_3 ex_3 => ?_)
  obtain rfl : x_3 = 2 := ex_3.trans (by decide +kernel)
  refine va_sld hx hb hX hbl hbA hS (by unfold vp_in; decide +kernel) dL_law_1396 ?_
  refine lv_topi (fun x_4 ex_4 => ?_)
  obtain rfl : v2 = x_4 := (ex_4.trans hv2).symm
  refine vp_callSi (va_Run.run (va_runV (As := [.int v1, .int v2]) (rest := []) ⟨hx, hb, hml, hown, hts⟩ (c_X11_status l dC dI a cG cT ft TL hT v1 v2) (cwV 2 hts gv_RL_155 rfl rfl rfl (by decide +kernel) ⟨Nat.le_of_ble_eq_true rfl, Nat.le_of_ble_eq_true rfl⟩) ⟨fun a U g mk q => by obtain ⟨q0, qP, qK⟩ := q; exact ⟨q0, qP, va_K.moved (u := U) (U := U.calling g mk a) (Vm.Alike.refl U.vm) qK⟩, va_recv hKX hPX (ci := 10) (q0 := 0) rfl rfl, fun U hU hW => ⟨rfl, by rw [hU]; exact hPX, va_K.moved hW.alike hKX⟩⟩ rfl rfl hl.1 rfl (lv_room (Nat.le_of_ble_eq_true rfl)) dL_law_1397 ⟨Nat.le_of_ble_eq_true rfl, Nat.le_of_ble_eq_true rfl⟩)) (fun r_5 e_5 => ?_)
  refine lv_aload_n hx hb dL_law_1400 rfl (lv_at hl 1 rfl) ?_
  refine lv_aload_n hx hb dL_law_1401 rfl (lv_at hl 3 rfl) ?_
  refine lv_iload_n hx hb dL_law_1402 rfl (lv_at hl 0 rfl) ?_
  refine lv_iconst (v := 1) hx hb dL_law_1403 (by decide) ?_
  refine lv_iadd hx hb dL_law_1404 ?_
  refine lv_topi (fun x_6 ex_6 => ?_)
  obtain rfl : x_6 = 1 := ex_6.trans (by decide +kernel)
  refine va_sld hx hb hX hbl hbA hS (by unfold vp_in; decide +kernel) dL_law_1405 ?_
  refine lv_topi (fun x_7 ex_7 => ?_)
  obtain rfl : v1 = x_7 := (ex_7.trans hv1).symm
  refine lv_aload_n hx hb dL_law_1406 rfl (lv_at hl 3 rfl) ?_
  refine lv_iload_n hx hb dL_law_1407 rfl (lv_at hl 0 rfl) ?_
  refine lv_iconst (v := 2) hx hb dL_law_1408 (by decide) ?_
  refine lv_iadd hx hb dL_law_1409 ?_
  refine lv_topi (fun x_8 ex_8 => ?_)
  obtain rfl : x_8 = 2 := ex_8.trans (by decide +kernel)
  refine va_sld hx hb hX hbl hbA hS (by unfold vp_in; decide +kernel) dL_law_1410 ?_
  refine lv_topi (fun x_9 ex_9 => ?_)
  obtain rfl : v2 = x_9 := (ex_9.trans hv2).symm
  refine vp_callSi (va_Run.run (va_runV (As := [.int v1, .int v2]) (rest := [.int r_5]) ⟨hx, hb, hml, hown, hts⟩ (c_X12_status l dC dI b c1 c2 c3 c4 fk hF v1 v2) (cwV 2 hts gv_RL_158 rfl rfl rfl (by decide +kernel) ⟨Nat.le_of_ble_eq_true rfl, Nat.le_of_ble_eq_true rfl⟩) ⟨fun a U g mk q => by obtain ⟨q0, qP, qK⟩ := q; exact ⟨q0, qP, va_K.moved (u := U) (U := U.calling g mk a) (Vm.Alike.refl U.vm) qK⟩, va_recv hKM hPM (ci := 11) (q0 := 0) rfl rfl, fun U hU hW => ⟨rfl, by rw [hU]; exact hPM, va_K.moved hW.alike hKM⟩⟩ rfl rfl hl.1 rfl (lv_room (Nat.le_of_ble_eq_true rfl)) dL_law_1411 ⟨Nat.le_of_ble_eq_true rfl, Nat.le_of_ble_eq_true rfl⟩)) (fun r_10 e_10 => ?_)
  obtain rfl : r_5 = r_10 := e_5.trans e_10.symm
  refine lv_icmp_eq (tgt := 1419) hx hb dL_law_1414 (by decide) (fun c_11 => ?_) (fun c_11 => absurd rfl c_11)
  refine W.widen (k := 1305) (n := 700005) (by omega) (by omega) ?_
  exact law_next C0 hS hl
