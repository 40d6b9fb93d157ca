section LC
variable {p : Program} {l : Launch} {e : Env} {s : State} {m : MethodId} {below : List Frame} {meth : Method} {c : Code} {H : Heap} {locs : List Loc} {Q : State → Prop}
variable {ls : Array Slot} {D : va_G} {K Km : zK} {V : zV} {f : Nat → Int32} {A : Nat → Nat → Int32} {a b sb L N : Nat} {i : Int32} {xs : Nat → Int32}
set_option maxHeartbeats 4000000 in
set_option maxRecDepth 100000 in
theorem lc_1 (G : lwG p s m meth c sb L xs D) (hi : i.toInt = 5 * (N : Int)) (hL : 5 * N + 5 ≤ L) (T : lwT D s K V a Km f A b (N : Int) H locs) (hl : lv_has ls 4 [(3, .int i), (2, .ref b), (1, .ref a), (0, .ref sb)]) (nx : ∀ (K : zK) (V : zV) (f : Nat → Int32) (A : Nat → Nat → Int32) (H : Heap) (locs : List Loc) (ls : Array Slot), lwT D s K V a Km f A b ((N : Int) + 1) H locs → lv_has ls 4 [(3, .int i), (2, .ref b), (1, .ref a), (0, .ref sb)] → W p l e room_1 s m #[Value.ref sb] below meth c H locs (2000 + (N + 1)) (700000 + 3 * (N + 1)) Q (F0 m 1419 ls [])) : W p l e room_1 s m #[Value.ref sb] below meth c H locs (2000 + N) (700000 + 3 * N) Q (F0 m 241 ls []) := by
  obtain ⟨hx, hb, hr, hml, hown, hts, hX, hbl, hlocks, hgv⟩ := id G.1
  have hL2 := G.2.1
  obtain ⟨vi, va, vg⟩ := V
  have hf : (2000 + N) + 0 ≤ room_1.cells ∧ (700000 + 3 * N) + 0 ≤ room_1.slots := ⟨by show 2000 + N + 0 ≤ 600000; omega, by show 700000 + 3 * N + 0 ≤ 7302250; omega⟩
  have h600 : 0 ≤ (N : Int) ∧ (N : Int) ≤ 600 := ⟨by omega, by omega⟩
  refine lv_aload_n hx hb dL_law_241 rfl (lv_at hl 2 rfl) ?_
  refine lw_arg (k := 1) (kv := 1) G T.2.2.2.2 hl hi hL rfl ti_1 (by decide) dL_law_242 dL_law_243 dL_law_244 dL_law_245 dL_law_246 ?_
  refine lw_cS (lw_runX (As := [.int (xs (5 * N + 1))]) (rest := []) G T.1 T.2.2.2.2 (c_X11_kindOf l D K T.1.1 vi va vg T.1.2.1 a T.1.2.2.2.1.1 T.1.2.2.2.1.2 T.1.2.2.2.2.2.1 (xs (5 * N + 1))) m_X11_kindOf rfl wm_L_18 ⟨Nat.le_of_ble_eq_true rfl, Nat.le_of_ble_eq_true rfl⟩ hf hl.1 (Nat.le_of_ble_eq_true rfl) dL_law_247) (fun r1 p1 => ?_)
  refine lv_pop hx hb dL_law_250 rfl ?_
  refine lv_aload_n hx hb dL_law_251 rfl (lv_at hl 1 rfl) ?_
  refine lw_arg (k := 1) (kv := 1) G T.2.2.2.2 hl hi hL rfl ti_1 (by decide) dL_law_252 dL_law_253 dL_law_254 dL_law_255 dL_law_256 ?_
  refine lw_cS (lw_runM (As := [.int (xs (5 * N + 1))]) (rest := []) G T.2.1 T.2.2.2.2 (c2_X12_kindOf l D Km T.2.1.1 f A T.2.1.2.1 b T.2.1.2.2.2.2.1.1 T.2.1.2.2.2.2.1.2 (xs (5 * N + 1))) m_X12_kindOf rfl wm_L_22 ⟨Nat.le_of_ble_eq_true rfl, Nat.le_of_ble_eq_true rfl⟩ hf hl.1 (Nat.le_of_ble_eq_true rfl) dL_law_257) (fun r2 p2 => ?_)
  have T9 := T.up
  refine lv_pop hx hb dL_law_260 rfl ?_
  refine lv_goto (tgt := 1419) hx hb dL_law_261 (by decide) ?_
  refine W.widen (k := 2000 + (N + 1)) (n := 700000 + 3 * (N + 1)) (by omega) (by omega) ?_
  exact nx _ _ _ _ _ _ _ T9 hl
set_option maxHeartbeats 4000000 in
set_option maxRecDepth 100000 in
theorem lc_2 (G : lwG p s m meth c sb L xs D) (hi : i.toInt = 5 * (N : Int)) (hL : 5 * N + 5 ≤ L) (T : lwT D s K V a Km f A b (N : Int) H locs) (hl : lv_has ls 4 [(3, .int i), (2, .ref b), (1, .ref a), (0, .ref sb)]) (nx : ∀ (K : zK) (V : zV) (f : Nat → Int32) (A : Nat → Nat → Int32) (H : Heap) (locs : List Loc) (ls : Array Slot), lwT D s K V a Km f A b ((N : Int) + 1) H locs → lv_has ls 4 [(3, .int i), (2, .ref b), (1, .ref a), (0, .ref sb)] → W p l e room_1 s m #[Value.ref sb] below meth c H locs (2000 + (N + 1)) (700000 + 3 * (N + 1)) Q (F0 m 1419 ls [])) : W p l e room_1 s m #[Value.ref sb] below meth c H locs (2000 + N) (700000 + 3 * N) Q (F0 m 264 ls []) := by
  obtain ⟨hx, hb, hr, hml, hown, hts, hX, hbl, hlocks, hgv⟩ := id G.1
  have hL2 := G.2.1
  obtain ⟨vi, va, vg⟩ := V
  have hf : (2000 + N) + 0 ≤ room_1.cells ∧ (700000 + 3 * N) + 0 ≤ room_1.slots := ⟨by show 2000 + N + 0 ≤ 600000; omega, by show 700000 + 3 * N + 0 ≤ 7302250; omega⟩
  have h600 : 0 ≤ (N : Int) ∧ (N : Int) ≤ 600 := ⟨by omega, by omega⟩
  refine lv_aload_n hx hb dL_law_264 rfl (lv_at hl 2 rfl) ?_
  refine lw_arg (k := 1) (kv := 1) G T.2.2.2.2 hl hi hL rfl ti_1 (by decide) dL_law_265 dL_law_266 dL_law_267 dL_law_268 dL_law_269 ?_
  refine lw_arg (k := 2) (kv := 2) G T.2.2.2.2 hl hi hL rfl ti_2 (by decide) dL_law_270 dL_law_271 dL_law_272 dL_law_273 dL_law_274 ?_
  refine lw_arg (k := 3) (kv := 3) G T.2.2.2.2 hl hi hL rfl ti_3 (by decide) dL_law_275 dL_law_276 dL_law_277 dL_law_278 dL_law_279 ?_
  refine lw_cX T (lw_runX (As := [.int (xs (5 * N + 1)), .int (xs (5 * N + 2)), .int (xs (5 * N + 3))]) (rest := []) G T.1 T.2.2.2.2 (c_X11_table l D K T.1.1 vi va vg T.1.2.1 a T.1.2.2.2.1.1 T.1.2.2.2.1.2 T.1.2.2.2.2.2.1 (xs (5 * N + 1)) (xs (5 * N + 2)) (xs (5 * N + 3))) m_X11_table rfl wm_L_23 ⟨Nat.le_of_ble_eq_true rfl, Nat.le_of_ble_eq_true rfl⟩ hf hl.1 (Nat.le_of_ble_eq_true rfl) dL_law_280) (fun r V h => h.1) (fun r1 V1 H locs p1 T => ?_)
  refine lv_aload_n hx hb dL_law_283 rfl (lv_at hl 1 rfl) ?_
  refine lw_arg (k := 1) (kv := 1) G T.2.2.2.2 hl hi hL rfl ti_1 (by decide) dL_law_284 dL_law_285 dL_law_286 dL_law_287 dL_law_288 ?_
  refine lw_arg (k := 2) (kv := 2) G T.2.2.2.2 hl hi hL rfl ti_2 (by decide) dL_law_289 dL_law_290 dL_law_291 dL_law_292 dL_law_293 ?_
  refine lw_arg (k := 3) (kv := 3) G T.2.2.2.2 hl hi hL rfl ti_3 (by decide) dL_law_294 dL_law_295 dL_law_296 dL_law_297 dL_law_298 ?_
  refine lw_cM T (lw_runM (As := [.int (xs (5 * N + 1)), .int (xs (5 * N + 2)), .int (xs (5 * N + 3))]) (rest := [.int r1]) G T.2.1 T.2.2.2.2 (c2_X12_table l D Km T.2.1.1 f A T.2.1.2.1 (N : Int) b T.2.1.2.2.2.2.1.1 T.2.1.2.2.2.2.1.2 (xs (5 * N + 1)) (xs (5 * N + 2)) (xs (5 * N + 3)) T.2.1.2.2.1 h600) m_X12_table rfl wm_L_27 ⟨Nat.le_of_ble_eq_true rfl, Nat.le_of_ble_eq_true rfl⟩ hf hl.1 (Nat.le_of_ble_eq_true rfl) dL_law_299) (fun r f' A' h => ⟨h.1, h.2.2.2.1, h.2.1 43 (by decide)⟩) (fun r2 f2 A2 H locs p2 T9 => ?_)
  refine lv_icmp_eq (tgt := 1419) hx hb dL_law_302 (by decide) (fun _ => ?_) (fun c1 => absurd ((fa_eq _ _).mpr (tRs.one p1.2 (tRs.cg T.2.2.2.1 p2.2.2.2.2))) c1)
  refine W.widen (k := 2000 + (N + 1)) (n := 700000 + 3 * (N + 1)) (by omega) (by omega) ?_
  exact nx _ _ _ _ _ _ _ T9 hl
set_option maxHeartbeats 4000000 in
set_option maxRecDepth 100000 in
theorem lc_3 (G : lwG p s m meth c sb L xs D) (hi : i.toInt = 5 * (N : Int)) (hL : 5 * N + 5 ≤ L) (T : lwT D s K V a Km f A b (N : Int) H locs) (hl : lv_has ls 4 [(3, .int i), (2, .ref b), (1, .ref a), (0, .ref sb)]) (nx : ∀ (K : zK) (V : zV) (f : Nat → Int32) (A : Nat → Nat → Int32) (H : Heap) (locs : List Loc) (ls : Array Slot), lwT D s K V a Km f A b ((N : Int) + 1) H locs → lv_has ls 4 [(3, .int i), (2, .ref b), (1, .ref a), (0, .ref sb)] → W p l e room_1 s m #[Value.ref sb] below meth c H locs (2000 + (N + 1)) (700000 + 3 * (N + 1)) Q (F0 m 1419 ls [])) : W p l e room_1 s m #[Value.ref sb] below meth c H locs (2000 + N) (700000 + 3 * N) Q (F0 m 307 ls []) := by
  obtain ⟨hx, hb, hr, hml, hown, hts, hX, hbl, hlocks, hgv⟩ := id G.1
  have hL2 := G.2.1
  obtain ⟨vi, va, vg⟩ := V
  have hf : (2000 + N) + 0 ≤ room_1.cells ∧ (700000 + 3 * N) + 0 ≤ room_1.slots := ⟨by show 2000 + N + 0 ≤ 600000; omega, by show 700000 + 3 * N + 0 ≤ 7302250; omega⟩
  have h600 : 0 ≤ (N : Int) ∧ (N : Int) ≤ 600 := ⟨by omega, by omega⟩
  refine lv_aload_n hx hb dL_law_307 rfl (lv_at hl 2 rfl) ?_
  refine lw_arg (k := 1) (kv := 1) G T.2.2.2.2 hl hi hL rfl ti_1 (by decide) dL_law_308 dL_law_309 dL_law_310 dL_law_311 dL_law_312 ?_
  refine lw_arg (k := 2) (kv := 2) G T.2.2.2.2 hl hi hL rfl ti_2 (by decide) dL_law_313 dL_law_314 dL_law_315 dL_law_316 dL_law_317 ?_
  refine lw_arg (k := 3) (kv := 3) G T.2.2.2.2 hl hi hL rfl ti_3 (by decide) dL_law_318 dL_law_319 dL_law_320 dL_law_321 dL_law_322 ?_
  refine lv_if_eq (tgt := 330) hx hb dL_law_323 (by decide) (fun _ => ?_) (fun _ => ?_)
  · skip
    refine lv_iconst (v := 0) hx hb dL_law_330 (by decide) ?_
    refine lw_cX T (lw_runX (As := [.int (xs (5 * N + 1)), .int (xs (5 * N + 2)), .int (0)]) (rest := []) G T.1 T.2.2.2.2 (c_X11_seat l D K T.1.1 vi va vg T.1.2.1 a T.1.2.2.2.1.1 T.1.2.2.2.1.2 (xs (5 * N + 1)) (xs (5 * N + 2)) (0)) m_X11_seat rfl wm_L_28 ⟨Nat.le_of_ble_eq_true rfl, Nat.le_of_ble_eq_true rfl⟩ hf hl.1 (Nat.le_of_ble_eq_true rfl) dL_law_331) (fun r V h => h) (fun r1 V1 H locs p1 T => ?_)
    refine lv_pop hx hb dL_law_334 rfl ?_
    refine lv_aload_n hx hb dL_law_335 rfl (lv_at hl 1 rfl) ?_
    refine lw_arg (k := 1) (kv := 1) G T.2.2.2.2 hl hi hL rfl ti_1 (by decide) dL_law_336 dL_law_337 dL_law_338 dL_law_339 dL_law_340 ?_
    refine lw_arg (k := 2) (kv := 2) G T.2.2.2.2 hl hi hL rfl ti_2 (by decide) dL_law_341 dL_law_342 dL_law_343 dL_law_344 dL_law_345 ?_
    refine lw_arg (k := 3) (kv := 3) G T.2.2.2.2 hl hi hL rfl ti_3 (by decide) dL_law_346 dL_law_347 dL_law_348 dL_law_349 dL_law_350 ?_
    refine lv_if_eq (tgt := 358) hx hb dL_law_351 (by decide) (fun _ => ?_) (fun _ => ?_)
    · skip
      refine lv_iconst (v := 0) hx hb dL_law_358 (by decide) ?_
      refine lw_cM T (lw_runM (As := [.int (xs (5 * N + 1)), .int (xs (5 * N + 2)), .int (0)]) (rest := []) G T.2.1 T.2.2.2.2 (c_X12_seat l D Km T.2.1.1 f A T.2.1.2.1 (N : Int) b T.2.1.2.2.2.2.1.1 T.2.1.2.2.2.2.1.2 (xs (5 * N + 1)) (xs (5 * N + 2)) (0) T.2.1.2.2.1 h600) m_X12_seat rfl wm_L_32 ⟨Nat.le_of_ble_eq_true rfl, Nat.le_of_ble_eq_true rfl⟩ hf hl.1 (Nat.le_of_ble_eq_true rfl) dL_law_359) (fun r f' A' h => ⟨h.1, h.2.2.2, h.2.1 43 (by decide)⟩) (fun r2 f2 A2 H locs p2 T9 => ?_)
      refine lv_pop hx hb dL_law_362 rfl ?_
      refine lv_goto (tgt := 1419) hx hb dL_law_363 (by decide) ?_
      refine W.widen (k := 2000 + (N + 1)) (n := 700000 + 3 * (N + 1)) (by omega) (by omega) ?_
      exact nx _ _ _ _ _ _ _ T9 hl
    · skip
      refine lv_iconst (v := 1) hx hb dL_law_354 (by decide) ?_
      refine lv_goto (tgt := 359) hx hb dL_law_355 (by decide) ?_
      refine lw_cM T (lw_runM (As := [.int (xs (5 * N + 1)), .int (xs (5 * N + 2)), .int (1)]) (rest := []) G T.2.1 T.2.2.2.2 (c_X12_seat l D Km T.2.1.1 f A T.2.1.2.1 (N : Int) b T.2.1.2.2.2.2.1.1 T.2.1.2.2.2.2.1.2 (xs (5 * N + 1)) (xs (5 * N + 2)) (1) T.2.1.2.2.1 h600) m_X12_seat rfl wm_L_32 ⟨Nat.le_of_ble_eq_true rfl, Nat.le_of_ble_eq_true rfl⟩ hf hl.1 (Nat.le_of_ble_eq_true rfl) dL_law_359) (fun r f' A' h => ⟨h.1, h.2.2.2, h.2.1 43 (by decide)⟩) (fun r2 f2 A2 H locs p2 T9 => ?_)
      refine lv_pop hx hb dL_law_362 rfl ?_
      refine lv_goto (tgt := 1419) hx hb dL_law_363 (by decide) ?_
      refine W.widen (k := 2000 + (N + 1)) (n := 700000 + 3 * (N + 1)) (by omega) (by omega) ?_
      exact nx _ _ _ _ _ _ _ T9 hl
  · skip
    refine lv_iconst (v := 1) hx hb dL_law_326 (by decide) ?_
    refine lv_goto (tgt := 331) hx hb dL_law_327 (by decide) ?_
    refine lw_cX T (lw_runX (As := [.int (xs (5 * N + 1)), .int (xs (5 * N + 2)), .int (1)]) (rest := []) G T.1 T.2.2.2.2 (c_X11_seat l D K T.1.1 vi va vg T.1.2.1 a T.1.2.2.2.1.1 T.1.2.2.2.1.2 (xs (5 * N + 1)) (xs (5 * N + 2)) (1)) m_X11_seat rfl wm_L_28 ⟨Nat.le_of_ble_eq_true rfl, Nat.le_of_ble_eq_true rfl⟩ hf hl.1 (Nat.le_of_ble_eq_true rfl) dL_law_331) (fun r V h => h) (fun r1 V1 H locs p1 T => ?_)
    refine lv_pop hx hb dL_law_334 rfl ?_
    refine lv_aload_n hx hb dL_law_335 rfl (lv_at hl 1 rfl) ?_
    refine lw_arg (k := 1) (kv := 1) G T.2.2.2.2 hl hi hL rfl ti_1 (by decide) dL_law_336 dL_law_337 dL_law_338 dL_law_339 dL_law_340 ?_
    refine lw_arg (k := 2) (kv := 2) G T.2.2.2.2 hl hi hL rfl ti_2 (by decide) dL_law_341 dL_law_342 dL_law_343 dL_law_344 dL_law_345 ?_
    refine lw_arg (k := 3) (kv := 3) G T.2.2.2.2 hl hi hL rfl ti_3 (by decide) dL_law_346 dL_law_347 dL_law_348 dL_law_349 dL_law_350 ?_
    refine lv_if_eq (tgt := 358) hx hb dL_law_351 (by decide) (fun _ => ?_) (fun _ => ?_)
    · skip
      refine lv_iconst (v := 0) hx hb dL_law_358 (by decide) ?_
      refine lw_cM T (lw_runM (As := [.int (xs (5 * N + 1)), .int (xs (5 * N + 2)), .int (0)]) (rest := []) G T.2.1 T.2.2.2.2 (c_X12_seat l D Km T.2.1.1 f A T.2.1.2.1 (N : Int) b T.2.1.2.2.2.2.1.1 T.2.1.2.2.2.2.1.2 (xs (5 * N + 1)) (xs (5 * N + 2)) (0) T.2.1.2.2.1 h600) m_X12_seat rfl wm_L_32 ⟨Nat.le_of_ble_eq_true rfl, Nat.le_of_ble_eq_true rfl⟩ hf hl.1 (Nat.le_of_ble_eq_true rfl) dL_law_359) (fun r f' A' h => ⟨h.1, h.2.2.2, h.2.1 43 (by decide)⟩) (fun r2 f2 A2 H locs p2 T9 => ?_)
      refine lv_pop hx hb dL_law_362 rfl ?_
      refine lv_goto (tgt := 1419) hx hb dL_law_363 (by decide) ?_
      refine W.widen (k := 2000 + (N + 1)) (n := 700000 + 3 * (N + 1)) (by omega) (by omega) ?_
      exact nx _ _ _ _ _ _ _ T9 hl
    · skip
      refine lv_iconst (v := 1) hx hb dL_law_354 (by decide) ?_
      refine lv_goto (tgt := 359) hx hb dL_law_355 (by decide) ?_
      refine lw_cM T (lw_runM (As := [.int (xs (5 * N + 1)), .int (xs (5 * N + 2)), .int (1)]) (rest := []) G T.2.1 T.2.2.2.2 (c_X12_seat l D Km T.2.1.1 f A T.2.1.2.1 (N : Int) b T.2.1.2.2.2.2.1.1 T.2.1.2.2.2.2.1.2 (xs (5 * N + 1)) (xs (5 * N + 2)) (1) T.2.1.2.2.1 h600) m_X12_seat rfl wm_L_32 ⟨Nat.le_of_ble_eq_true rfl, Nat.le_of_ble_eq_true rfl⟩ hf hl.1 (Nat.le_of_ble_eq_true rfl) dL_law_359) (fun r f' A' h => ⟨h.1, h.2.2.2, h.2.1 43 (by decide)⟩) (fun r2 f2 A2 H locs p2 T9 => ?_)
      refine lv_pop hx hb dL_law_362 rfl ?_
      refine lv_goto (tgt := 1419) hx hb dL_law_363 (by decide) ?_
      refine W.widen (k := 2000 + (N + 1)) (n := 700000 + 3 * (N + 1)) (by omega) (by omega) ?_
      exact nx _ _ _ _ _ _ _ T9 hl
set_option maxHeartbeats 4000000 in
set_option maxRecDepth 100000 in
theorem lc_4 (G : lwG p s m meth c sb L xs D) (hi : i.toInt = 5 * (N : Int)) (hL : 5 * N + 5 ≤ L) (T : lwT D s K V a Km f A b (N : Int) H locs) (hl : lv_has ls 4 [(3, .int i), (2, .ref b), (1, .ref a), (0, .ref sb)]) (nx : ∀ (K : zK) (V : zV) (f : Nat → Int32) (A : Nat → Nat → Int32) (H : Heap) (locs : List Loc) (ls : Array Slot), lwT D s K V a Km f A b ((N : Int) + 1) H locs → lv_has ls 4 [(3, .int i), (2, .ref b), (1, .ref a), (0, .ref sb)] → W p l e room_1 s m #[Value.ref sb] below meth c H locs (2000 + (N + 1)) (700000 + 3 * (N + 1)) Q (F0 m 1419 ls [])) : W p l e room_1 s m #[Value.ref sb] below meth c H locs (2000 + N) (700000 + 3 * N) Q (F0 m 366 ls []) := by
  obtain ⟨hx, hb, hr, hml, hown, hts, hX, hbl, hlocks, hgv⟩ := id G.1
  have hL2 := G.2.1
  obtain ⟨vi, va, vg⟩ := V
  have hf : (2000 + N) + 0 ≤ room_1.cells ∧ (700000 + 3 * N) + 0 ≤ room_1.slots := ⟨by show 2000 + N + 0 ≤ 600000; omega, by show 700000 + 3 * N + 0 ≤ 7302250; omega⟩
  have h600 : 0 ≤ (N : Int) ∧ (N : Int) ≤ 600 := ⟨by omega, by omega⟩
  refine lv_aload_n hx hb dL_law_366 rfl (lv_at hl 2 rfl) ?_
  refine lw_arg (k := 1) (kv := 1) G T.2.2.2.2 hl hi hL rfl ti_1 (by decide) dL_law_367 dL_law_368 dL_law_369 dL_law_370 dL_law_371 ?_
  refine lw_arg (k := 2) (kv := 2) G T.2.2.2.2 hl hi hL rfl ti_2 (by decide) dL_law_372 dL_law_373 dL_law_374 dL_law_375 dL_law_376 ?_
  refine lw_arg (k := 3) (kv := 3) G T.2.2.2.2 hl hi hL rfl ti_3 (by decide) dL_law_377 dL_law_378 dL_law_379 dL_law_380 dL_law_381 ?_
  refine lw_cX T (lw_runX (As := [.int (xs (5 * N + 1)), .int (xs (5 * N + 2)), .int (xs (5 * N + 3))]) (rest := []) G T.1 T.2.2.2.2 (c_X11_kind l D K T.1.1 vi va vg T.1.2.1 a T.1.2.2.2.1.1 T.1.2.2.2.1.2 (xs (5 * N + 1)) (xs (5 * N + 2)) (xs (5 * N + 3))) m_X11_kind rfl wm_L_33 ⟨Nat.le_of_ble_eq_true rfl, Nat.le_of_ble_eq_true rfl⟩ hf hl.1 (Nat.le_of_ble_eq_true rfl) dL_law_382) (fun r V h => h) (fun r1 V1 H locs p1 T => ?_)
  refine lv_pop hx hb dL_law_385 rfl ?_
  refine lv_aload_n hx hb dL_law_386 rfl (lv_at hl 1 rfl) ?_
  refine lw_arg (k := 1) (kv := 1) G T.2.2.2.2 hl hi hL rfl ti_1 (by decide) dL_law_387 dL_law_388 dL_law_389 dL_law_390 dL_law_391 ?_
  refine lw_arg (k := 2) (kv := 2) G T.2.2.2.2 hl hi hL rfl ti_2 (by decide) dL_law_392 dL_law_393 dL_law_394 dL_law_395 dL_law_396 ?_
  refine lw_arg (k := 3) (kv := 3) G T.2.2.2.2 hl hi hL rfl ti_3 (by decide) dL_law_397 dL_law_398 dL_law_399 dL_law_400 dL_law_401 ?_
  refine lw_cM T (lw_runM (As := [.int (xs (5 * N + 1)), .int (xs (5 * N + 2)), .int (xs (5 * N + 3))]) (rest := []) G T.2.1 T.2.2.2.2 (c_X12_kind l D Km T.2.1.1 f A T.2.1.2.1 (N : Int) b T.2.1.2.2.2.2.1.1 T.2.1.2.2.2.2.1.2 (xs (5 * N + 1)) (xs (5 * N + 2)) (xs (5 * N + 3)) T.2.1.2.2.1 h600) m_X12_kind rfl wm_L_36 ⟨Nat.le_of_ble_eq_true rfl, Nat.le_of_ble_eq_true rfl⟩ hf hl.1 (Nat.le_of_ble_eq_true rfl) dL_law_402) (fun r f' A' h => ⟨h.1, h.2.2.2, h.2.1 43 (by decide)⟩) (fun r2 f2 A2 H locs p2 T9 => ?_)
  refine lv_pop hx hb dL_law_405 rfl ?_
  refine lv_goto (tgt := 1419) hx hb dL_law_406 (by decide) ?_
  refine W.widen (k := 2000 + (N + 1)) (n := 700000 + 3 * (N + 1)) (by omega) (by omega) ?_
  exact nx _ _ _ _ _ _ _ T9 hl
set_option maxHeartbeats 4000000 in
set_option maxRecDepth 100000 in
theorem lc_5 (G : lwG p s m meth c sb L xs D) (hi : i.toInt = 5 * (N : Int)) (hL : 5 * N + 5 ≤ L) (T : lwT D s K V a Km f A b (N : Int) H locs) (hl : lv_has ls 4 [(3, .int i), (2, .ref b), (1, .ref a), (0, .ref sb)]) (nx : ∀ (K : zK) (V : zV) (f : Nat → Int32) (A : Nat → Nat → Int32) (H : Heap) (locs : List Loc) (ls : Array Slot), lwT D s K V a Km f A b ((N : Int) + 1) H locs → lv_has ls 4 [(3, .int i), (2, .ref b), (1, .ref a), (0, .ref sb)] → W p l e room_1 s m #[Value.ref sb] below meth c H locs (2000 + (N + 1)) (700000 + 3 * (N + 1)) Q (F0 m 1419 ls [])) : W p l e room_1 s m #[Value.ref sb] below meth c H locs (2000 + N) (700000 + 3 * N) Q (F0 m 409 ls []) := by
  obtain ⟨hx, hb, hr, hml, hown, hts, hX, hbl, hlocks, hgv⟩ := id G.1
  have hL2 := G.2.1
  obtain ⟨vi, va, vg⟩ := V
  have hf : (2000 + N) + 0 ≤ room_1.cells ∧ (700000 + 3 * N) + 0 ≤ room_1.slots := ⟨by show 2000 + N + 0 ≤ 600000; omega, by show 700000 + 3 * N + 0 ≤ 7302250; omega⟩
  have h600 : 0 ≤ (N : Int) ∧ (N : Int) ≤ 600 := ⟨by omega, by omega⟩
  refine lv_aload_n hx hb dL_law_409 rfl (lv_at hl 2 rfl) ?_
  refine lw_arg (k := 1) (kv := 1) G T.2.2.2.2 hl hi hL rfl ti_1 (by decide) dL_law_410 dL_law_411 dL_law_412 dL_law_413 dL_law_414 ?_
  refine lw_arg (k := 2) (kv := 2) G T.2.2.2.2 hl hi hL rfl ti_2 (by decide) dL_law_415 dL_law_416 dL_law_417 dL_law_418 dL_law_419 ?_
  refine lw_cS (lw_runX (As := [.int (xs (5 * N + 1)), .int (xs (5 * N + 2))]) (rest := []) G T.1 T.2.2.2.2 (c_X11_card l D K T.1.1 vi va vg T.1.2.1 a T.1.2.2.2.1.1 T.1.2.2.2.1.2 (xs (5 * N + 1)) (xs (5 * N + 2))) m_X11_card rfl wm_L_37 ⟨Nat.le_of_ble_eq_true rfl, Nat.le_of_ble_eq_true rfl⟩ hf hl.1 (Nat.le_of_ble_eq_true rfl) dL_law_420) (fun r1 p1 => ?_)
  refine lv_pop hx hb dL_law_423 rfl ?_
  refine lv_aload_n hx hb dL_law_424 rfl (lv_at hl 1 rfl) ?_
  refine lw_arg (k := 1) (kv := 1) G T.2.2.2.2 hl hi hL rfl ti_1 (by decide) dL_law_425 dL_law_426 dL_law_427 dL_law_428 dL_law_429 ?_
  refine lw_arg (k := 2) (kv := 2) G T.2.2.2.2 hl hi hL rfl ti_2 (by decide) dL_law_430 dL_law_431 dL_law_432 dL_law_433 dL_law_434 ?_
  refine lw_cS (lw_runM (As := [.int (xs (5 * N + 1)), .int (xs (5 * N + 2))]) (rest := []) G T.2.1 T.2.2.2.2 (c_X12_card l D Km T.2.1.1 f A T.2.1.2.1 b T.2.1.2.2.2.2.1.1 T.2.1.2.2.2.2.1.2 (xs (5 * N + 1)) (xs (5 * N + 2))) m_X12_card rfl wm_L_41 ⟨Nat.le_of_ble_eq_true rfl, Nat.le_of_ble_eq_true rfl⟩ hf hl.1 (Nat.le_of_ble_eq_true rfl) dL_law_435) (fun r2 p2 => ?_)
  have T9 := T.up
  refine lv_pop hx hb dL_law_438 rfl ?_
  refine lv_goto (tgt := 1419) hx hb dL_law_439 (by decide) ?_
  refine W.widen (k := 2000 + (N + 1)) (n := 700000 + 3 * (N + 1)) (by omega) (by omega) ?_
  exact nx _ _ _ _ _ _ _ T9 hl
set_option maxHeartbeats 4000000 in
set_option maxRecDepth 100000 in
theorem lc_6 (G : lwG p s m meth c sb L xs D) (hi : i.toInt = 5 * (N : Int)) (hL : 5 * N + 5 ≤ L) (T : lwT D s K V a Km f A b (N : Int) H locs) (hl : lv_has ls 4 [(3, .int i), (2, .ref b), (1, .ref a), (0, .ref sb)]) (nx : ∀ (K : zK) (V : zV) (f : Nat → Int32) (A : Nat → Nat → Int32) (H : Heap) (locs : List Loc) (ls : Array Slot), lwT D s K V a Km f A b ((N : Int) + 1) H locs → lv_has ls 4 [(3, .int i), (2, .ref b), (1, .ref a), (0, .ref sb)] → W p l e room_1 s m #[Value.ref sb] below meth c H locs (2000 + (N + 1)) (700000 + 3 * (N + 1)) Q (F0 m 1419 ls [])) : W p l e room_1 s m #[Value.ref sb] below meth c H locs (2000 + N) (700000 + 3 * N) Q (F0 m 442 ls []) := by
  obtain ⟨hx, hb, hr, hml, hown, hts, hX, hbl, hlocks, hgv⟩ := id G.1
  have hL2 := G.2.1
  obtain ⟨vi, va, vg⟩ := V
  have hf : (2000 + N) + 0 ≤ room_1.cells ∧ (700000 + 3 * N) + 0 ≤ room_1.slots := ⟨by show 2000 + N + 0 ≤ 600000; omega, by show 700000 + 3 * N + 0 ≤ 7302250; omega⟩
  have h600 : 0 ≤ (N : Int) ∧ (N : Int) ≤ 600 := ⟨by omega, by omega⟩
  refine lv_aload_n hx hb dL_law_442 rfl (lv_at hl 2 rfl) ?_
  refine lw_arg (k := 1) (kv := 1) G T.2.2.2.2 hl hi hL rfl ti_1 (by decide) dL_law_443 dL_law_444 dL_law_445 dL_law_446 dL_law_447 ?_
  refine lw_arg (k := 2) (kv := 2) G T.2.2.2.2 hl hi hL rfl ti_2 (by decide) dL_law_448 dL_law_449 dL_law_450 dL_law_451 dL_law_452 ?_
  refine lw_cX T (lw_runX (As := [.int (xs (5 * N + 1)), .int (xs (5 * N + 2))]) (rest := []) G T.1 T.2.2.2.2 (c_X11_match l D K T.1.1 vi va vg T.1.2.1 a T.1.2.2.2.1.1 T.1.2.2.2.1.2 (xs (5 * N + 1)) (xs (5 * N + 2))) m_X11_match rfl wm_L_42 ⟨Nat.le_of_ble_eq_true rfl, Nat.le_of_ble_eq_true rfl⟩ hf hl.1 (Nat.le_of_ble_eq_true rfl) dL_law_453) (fun r V h => h) (fun r1 V1 H locs p1 T => ?_)
  refine lv_pop hx hb dL_law_456 rfl ?_
  refine lv_aload_n hx hb dL_law_457 rfl (lv_at hl 1 rfl) ?_
  refine lw_arg (k := 1) (kv := 1) G T.2.2.2.2 hl hi hL rfl ti_1 (by decide) dL_law_458 dL_law_459 dL_law_460 dL_law_461 dL_law_462 ?_
  refine lw_arg (k := 2) (kv := 2) G T.2.2.2.2 hl hi hL rfl ti_2 (by decide) dL_law_463 dL_law_464 dL_law_465 dL_law_466 dL_law_467 ?_
  refine lw_cM T (lw_runM (As := [.int (xs (5 * N + 1)), .int (xs (5 * N + 2))]) (rest := []) G T.2.1 T.2.2.2.2 (c_X12_match l D Km T.2.1.1 f A T.2.1.2.1 (N : Int) b T.2.1.2.2.2.2.1.1 T.2.1.2.2.2.2.1.2 (xs (5 * N + 1)) (xs (5 * N + 2)) T.2.1.2.2.1 h600) m_X12_match rfl wm_L_45 ⟨Nat.le_of_ble_eq_true rfl, Nat.le_of_ble_eq_true rfl⟩ hf hl.1 (Nat.le_of_ble_eq_true rfl) dL_law_468) (fun r f' A' h => ⟨h.1, h.2.2.2, h.2.1 43 (by decide)⟩) (fun r2 f2 A2 H locs p2 T9 => ?_)
  refine lv_pop hx hb dL_law_471 rfl ?_
  refine lv_goto (tgt := 1419) hx hb dL_law_472 (by decide) ?_
  refine W.widen (k := 2000 + (N + 1)) (n := 700000 + 3 * (N + 1)) (by omega) (by omega) ?_
  exact nx _ _ _ _ _ _ _ T9 hl
set_option maxHeartbeats 4000000 in
set_option maxRecDepth 100000 in
theorem lc_7 (G : lwG p s m meth c sb L xs D) (hi : i.toInt = 5 * (N : Int)) (hL : 5 * N + 5 ≤ L) (T : lwT D s K V a Km f A b (N : Int) H locs) (hl : lv_has ls 4 [(3, .int i), (2, .ref b), (1, .ref a), (0, .ref sb)]) (nx : ∀ (K : zK) (V : zV) (f : Nat → Int32) (A : Nat → Nat → Int32) (H : Heap) (locs : List Loc) (ls : Array Slot), lwT D s K V a Km f A b ((N : Int) + 1) H locs → lv_has ls 4 [(3, .int i), (2, .ref b), (1, .ref a), (0, .ref sb)] → W p l e room_1 s m #[Value.ref sb] below meth c H locs (2000 + (N + 1)) (700000 + 3 * (N + 1)) Q (F0 m 1419 ls [])) : W p l e room_1 s m #[Value.ref sb] below meth c H locs (2000 + N) (700000 + 3 * N) Q (F0 m 475 ls []) := by
  obtain ⟨hx, hb, hr, hml, hown, hts, hX, hbl, hlocks, hgv⟩ := id G.1
  have hL2 := G.2.1
  obtain ⟨vi, va, vg⟩ := V
  have hf : (2000 + N) + 0 ≤ room_1.cells ∧ (700000 + 3 * N) + 0 ≤ room_1.slots := ⟨by show 2000 + N + 0 ≤ 600000; omega, by show 700000 + 3 * N + 0 ≤ 7302250; omega⟩
  have h600 : 0 ≤ (N : Int) ∧ (N : Int) ≤ 600 := ⟨by omega, by omega⟩
  refine lv_aload_n hx hb dL_law_475 rfl (lv_at hl 2 rfl) ?_
  refine lw_arg (k := 1) (kv := 1) G T.2.2.2.2 hl hi hL rfl ti_1 (by decide) dL_law_476 dL_law_477 dL_law_478 dL_law_479 dL_law_480 ?_
  refine lw_arg (k := 2) (kv := 2) G T.2.2.2.2 hl hi hL rfl ti_2 (by decide) dL_law_481 dL_law_482 dL_law_483 dL_law_484 dL_law_485 ?_
  refine lw_arg (k := 3) (kv := 3) G T.2.2.2.2 hl hi hL rfl ti_3 (by decide) dL_law_486 dL_law_487 dL_law_488 dL_law_489 dL_law_490 ?_
  refine lw_cX T (lw_runX (As := [.int (xs (5 * N + 1)), .int (xs (5 * N + 2)), .int (xs (5 * N + 3))]) (rest := []) G T.1 T.2.2.2.2 (c_X11_deal l D K T.1.1 vi va vg T.1.2.1 a T.1.2.2.2.1.1 T.1.2.2.2.1.2 (xs (5 * N + 1)) (xs (5 * N + 2)) (xs (5 * N + 3))) m_X11_deal rfl wm_L_46 ⟨Nat.le_of_ble_eq_true rfl, Nat.le_of_ble_eq_true rfl⟩ hf hl.1 (Nat.le_of_ble_eq_true rfl) dL_law_491) (fun r V h => h) (fun r1 V1 H locs p1 T => ?_)
  refine lv_pop hx hb dL_law_494 rfl ?_
  refine lv_aload_n hx hb dL_law_495 rfl (lv_at hl 1 rfl) ?_
  refine lw_arg (k := 1) (kv := 1) G T.2.2.2.2 hl hi hL rfl ti_1 (by decide) dL_law_496 dL_law_497 dL_law_498 dL_law_499 dL_law_500 ?_
  refine lw_arg (k := 2) (kv := 2) G T.2.2.2.2 hl hi hL rfl ti_2 (by decide) dL_law_501 dL_law_502 dL_law_503 dL_law_504 dL_law_505 ?_
  refine lw_arg (k := 3) (kv := 3) G T.2.2.2.2 hl hi hL rfl ti_3 (by decide) dL_law_506 dL_law_507 dL_law_508 dL_law_509 dL_law_510 ?_
  refine lw_cM T (lw_runM (As := [.int (xs (5 * N + 1)), .int (xs (5 * N + 2)), .int (xs (5 * N + 3))]) (rest := []) G T.2.1 T.2.2.2.2 (c_X12_deal l D Km T.2.1.1 f A T.2.1.2.1 (N : Int) b T.2.1.2.2.2.2.1.1 T.2.1.2.2.2.2.1.2 (xs (5 * N + 1)) (xs (5 * N + 2)) (xs (5 * N + 3)) T.2.1.2.2.1 h600) m_X12_deal rfl wm_L_49 ⟨Nat.le_of_ble_eq_true rfl, Nat.le_of_ble_eq_true rfl⟩ hf hl.1 (Nat.le_of_ble_eq_true rfl) dL_law_511) (fun r f' A' h => ⟨h.1, h.2.2.2, h.2.1 43 (by decide)⟩) (fun r2 f2 A2 H locs p2 T9 => ?_)
  refine lv_pop hx hb dL_law_514 rfl ?_
  refine lv_goto (tgt := 1419) hx hb dL_law_515 (by decide) ?_
  refine W.widen (k := 2000 + (N + 1)) (n := 700000 + 3 * (N + 1)) (by omega) (by omega) ?_
  exact nx _ _ _ _ _ _ _ T9 hl
set_option maxHeartbeats 4000000 in
set_option maxRecDepth 100000 in
theorem lc_8 (G : lwG p s m meth c sb L xs D) (hi : i.toInt = 5 * (N : Int)) (hL : 5 * N + 5 ≤ L) (T : lwT D s K V a Km f A b (N : Int) H locs) (hl : lv_has ls 4 [(3, .int i), (2, .ref b), (1, .ref a), (0, .ref sb)]) (nx : ∀ (K : zK) (V : zV) (f : Nat → Int32) (A : Nat → Nat → Int32) (H : Heap) (locs : List Loc) (ls : Array Slot), lwT D s K V a Km f A b ((N : Int) + 1) H locs → lv_has ls 4 [(3, .int i), (2, .ref b), (1, .ref a), (0, .ref sb)] → W p l e room_1 s m #[Value.ref sb] below meth c H locs (2000 + (N + 1)) (700000 + 3 * (N + 1)) Q (F0 m 1419 ls [])) : W p l e room_1 s m #[Value.ref sb] below meth c H locs (2000 + N) (700000 + 3 * N) Q (F0 m 518 ls []) := by
  obtain ⟨hx, hb, hr, hml, hown, hts, hX, hbl, hlocks, hgv⟩ := id G.1
  have hL2 := G.2.1
  obtain ⟨vi, va, vg⟩ := V
  have hf : (2000 + N) + 0 ≤ room_1.cells ∧ (700000 + 3 * N) + 0 ≤ room_1.slots := ⟨by show 2000 + N + 0 ≤ 600000; omega, by show 700000 + 3 * N + 0 ≤ 7302250; omega⟩
  have h600 : 0 ≤ (N : Int) ∧ (N : Int) ≤ 600 := ⟨by omega, by omega⟩
  refine lv_aload_n hx hb dL_law_518 rfl (lv_at hl 2 rfl) ?_
  refine lw_arg (k := 1) (kv := 1) G T.2.2.2.2 hl hi hL rfl ti_1 (by decide) dL_law_519 dL_law_520 dL_law_521 dL_law_522 dL_law_523 ?_
  refine lw_arg (k := 2) (kv := 2) G T.2.2.2.2 hl hi hL rfl ti_2 (by decide) dL_law_524 dL_law_525 dL_law_526 dL_law_527 dL_law_528 ?_
  refine lw_arg (k := 3) (kv := 3) G T.2.2.2.2 hl hi hL rfl ti_3 (by decide) dL_law_529 dL_law_530 dL_law_531 dL_law_532 dL_law_533 ?_
  refine lw_cX T (lw_runX (As := [.int (xs (5 * N + 1)), .int (xs (5 * N + 2)), .int (xs (5 * N + 3))]) (rest := []) G T.1 T.2.2.2.2 (c_X11_give l D K T.1.1 vi va vg T.1.2.1 a T.1.2.2.2.1.1 T.1.2.2.2.1.2 (xs (5 * N + 1)) (xs (5 * N + 2)) (xs (5 * N + 3))) m_X11_give rfl wm_L_50 ⟨Nat.le_of_ble_eq_true rfl, Nat.le_of_ble_eq_true rfl⟩ hf hl.1 (Nat.le_of_ble_eq_true rfl) dL_law_534) (fun r V h => h) (fun r1 V1 H locs p1 T => ?_)
  refine lv_pop hx hb dL_law_537 rfl ?_
  refine lv_aload_n hx hb dL_law_538 rfl (lv_at hl 1 rfl) ?_
  refine lw_arg (k := 1) (kv := 1) G T.2.2.2.2 hl hi hL rfl ti_1 (by decide) dL_law_539 dL_law_540 dL_law_541 dL_law_542 dL_law_543 ?_
  refine lw_arg (k := 2) (kv := 2) G T.2.2.2.2 hl hi hL rfl ti_2 (by decide) dL_law_544 dL_law_545 dL_law_546 dL_law_547 dL_law_548 ?_
  refine lw_arg (k := 3) (kv := 3) G T.2.2.2.2 hl hi hL rfl ti_3 (by decide) dL_law_549 dL_law_550 dL_law_551 dL_law_552 dL_law_553 ?_
  refine lw_cM T (lw_runM (As := [.int (xs (5 * N + 1)), .int (xs (5 * N + 2)), .int (xs (5 * N + 3))]) (rest := []) G T.2.1 T.2.2.2.2 (c_X12_give l D Km T.2.1.1 f A T.2.1.2.1 (N : Int) b T.2.1.2.2.2.2.1.1 T.2.1.2.2.2.2.1.2 (xs (5 * N + 1)) (xs (5 * N + 2)) (xs (5 * N + 3)) T.2.1.2.2.1 h600) m_X12_give rfl wm_L_53 ⟨Nat.le_of_ble_eq_true rfl, Nat.le_of_ble_eq_true rfl⟩ hf hl.1 (Nat.le_of_ble_eq_true rfl) dL_law_554) (fun r f' A' h => ⟨h.1, h.2.2.2, h.2.1 43 (by decide)⟩) (fun r2 f2 A2 H locs p2 T9 => ?_)
  refine lv_pop hx hb dL_law_557 rfl ?_
  refine lv_goto (tgt := 1419) hx hb dL_law_558 (by decide) ?_
  refine W.widen (k := 2000 + (N + 1)) (n := 700000 + 3 * (N + 1)) (by omega) (by omega) ?_
  exact nx _ _ _ _ _ _ _ T9 hl
set_option maxHeartbeats 4000000 in
set_option maxRecDepth 100000 in
theorem lc_9 (G : lwG p s m meth c sb L xs D) (hi : i.toInt = 5 * (N : Int)) (hL : 5 * N + 5 ≤ L) (T : lwT D s K V a Km f A b (N : Int) H locs) (hl : lv_has ls 4 [(3, .int i), (2, .ref b), (1, .ref a), (0, .ref sb)]) (nx : ∀ (K : zK) (V : zV) (f : Nat → Int32) (A : Nat → Nat → Int32) (H : Heap) (locs : List Loc) (ls : Array Slot), lwT D s K V a Km f A b ((N : Int) + 1) H locs → lv_has ls 4 [(3, .int i), (2, .ref b), (1, .ref a), (0, .ref sb)] → W p l e room_1 s m #[Value.ref sb] below meth c H locs (2000 + (N + 1)) (700000 + 3 * (N + 1)) Q (F0 m 1419 ls [])) : W p l e room_1 s m #[Value.ref sb] below meth c H locs (2000 + N) (700000 + 3 * N) Q (F0 m 561 ls []) := by
  obtain ⟨hx, hb, hr, hml, hown, hts, hX, hbl, hlocks, hgv⟩ := id G.1
  have hL2 := G.2.1
  obtain ⟨vi, va, vg⟩ := V
  have hf : (2000 + N) + 0 ≤ room_1.cells ∧ (700000 + 3 * N) + 0 ≤ room_1.slots := ⟨by show 2000 + N + 0 ≤ 600000; omega, by show 700000 + 3 * N + 0 ≤ 7302250; omega⟩
  have h600 : 0 ≤ (N : Int) ∧ (N : Int) ≤ 600 := ⟨by omega, by omega⟩
  refine lv_aload_n hx hb dL_law_561 rfl (lv_at hl 2 rfl) ?_
  refine lw_arg (k := 1) (kv := 1) G T.2.2.2.2 hl hi hL rfl ti_1 (by decide) dL_law_562 dL_law_563 dL_law_564 dL_law_565 dL_law_566 ?_
  refine lw_arg (k := 2) (kv := 2) G T.2.2.2.2 hl hi hL rfl ti_2 (by decide) dL_law_567 dL_law_568 dL_law_569 dL_law_570 dL_law_571 ?_
  refine lw_arg (k := 3) (kv := 3) G T.2.2.2.2 hl hi hL rfl ti_3 (by decide) dL_law_572 dL_law_573 dL_law_574 dL_law_575 dL_law_576 ?_
  refine lw_arg (k := 4) (kv := 4) G T.2.2.2.2 hl hi hL rfl ti_4 (by decide) dL_law_577 dL_law_578 dL_law_579 dL_law_580 dL_law_581 ?_
  refine lw_cX T (lw_runX (As := [.int (xs (5 * N + 1)), .int (xs (5 * N + 2)), .int (xs (5 * N + 3)), .int (xs (5 * N + 4))]) (rest := []) G T.1 T.2.2.2.2 (c_X11_bid l D K T.1.1 vi va vg T.1.2.1 a T.1.2.2.2.1.1 T.1.2.2.2.1.2 (xs (5 * N + 1)) (xs (5 * N + 2)) (xs (5 * N + 3)) (xs (5 * N + 4))) m_X11_bid rfl wm_L_54 ⟨Nat.le_of_ble_eq_true rfl, Nat.le_of_ble_eq_true rfl⟩ hf hl.1 (Nat.le_of_ble_eq_true rfl) dL_law_582) (fun r V h => h) (fun r1 V1 H locs p1 T => ?_)
  refine lv_pop hx hb dL_law_585 rfl ?_
  refine lv_aload_n hx hb dL_law_586 rfl (lv_at hl 1 rfl) ?_
  refine lw_arg (k := 1) (kv := 1) G T.2.2.2.2 hl hi hL rfl ti_1 (by decide) dL_law_587 dL_law_588 dL_law_589 dL_law_590 dL_law_591 ?_
  refine lw_arg (k := 2) (kv := 2) G T.2.2.2.2 hl hi hL rfl ti_2 (by decide) dL_law_592 dL_law_593 dL_law_594 dL_law_595 dL_law_596 ?_
  refine lw_arg (k := 3) (kv := 3) G T.2.2.2.2 hl hi hL rfl ti_3 (by decide) dL_law_597 dL_law_598 dL_law_599 dL_law_600 dL_law_601 ?_
  refine lw_arg (k := 4) (kv := 4) G T.2.2.2.2 hl hi hL rfl ti_4 (by decide) dL_law_602 dL_law_603 dL_law_604 dL_law_605 dL_law_606 ?_
  refine lw_cM T (lw_runM (As := [.int (xs (5 * N + 1)), .int (xs (5 * N + 2)), .int (xs (5 * N + 3)), .int (xs (5 * N + 4))]) (rest := []) G T.2.1 T.2.2.2.2 (c_X12_bid l D Km T.2.1.1 f A T.2.1.2.1 (N : Int) b T.2.1.2.2.2.2.1.1 T.2.1.2.2.2.2.1.2 (xs (5 * N + 1)) (xs (5 * N + 2)) (xs (5 * N + 3)) (xs (5 * N + 4)) T.2.1.2.2.1 h600) m_X12_bid rfl wm_L_57 ⟨Nat.le_of_ble_eq_true rfl, Nat.le_of_ble_eq_true rfl⟩ hf hl.1 (Nat.le_of_ble_eq_true rfl) dL_law_607) (fun r f' A' h => ⟨h.1, h.2.2.2, h.2.1 43 (by decide)⟩) (fun r2 f2 A2 H locs p2 T9 => ?_)
  refine lv_pop hx hb dL_law_610 rfl ?_
  refine lv_goto (tgt := 1419) hx hb dL_law_611 (by decide) ?_
  refine W.widen (k := 2000 + (N + 1)) (n := 700000 + 3 * (N + 1)) (by omega) (by omega) ?_
  exact nx _ _ _ _ _ _ _ T9 hl
set_option maxHeartbeats 4000000 in
set_option maxRecDepth 100000 in
theorem lc_10 (G : lwG p s m meth c sb L xs D) (hi : i.toInt = 5 * (N : Int)) (hL : 5 * N + 5 ≤ L) (T : lwT D s K V a Km f A b (N : Int) H locs) (hl : lv_has ls 4 [(3, .int i), (2, .ref b), (1, .ref a), (0, .ref sb)]) (nx : ∀ (K : zK) (V : zV) (f : Nat → Int32) (A : Nat → Nat → Int32) (H : Heap) (locs : List Loc) (ls : Array Slot), lwT D s K V a Km f A b ((N : Int) + 1) H locs → lv_has ls 4 [(3, .int i), (2, .ref b), (1, .ref a), (0, .ref sb)] → W p l e room_1 s m #[Value.ref sb] below meth c H locs (2000 + (N + 1)) (700000 + 3 * (N + 1)) Q (F0 m 1419 ls [])) : W p l e room_1 s m #[Value.ref sb] below meth c H locs (2000 + N) (700000 + 3 * N) Q (F0 m 614 ls []) := by
  obtain ⟨hx, hb, hr, hml, hown, hts, hX, hbl, hlocks, hgv⟩ := id G.1
  have hL2 := G.2.1
  obtain ⟨vi, va, vg⟩ := V
  have hf : (2000 + N) + 0 ≤ room_1.cells ∧ (700000 + 3 * N) + 0 ≤ room_1.slots := ⟨by show 2000 + N + 0 ≤ 600000; omega, by show 700000 + 3 * N + 0 ≤ 7302250; omega⟩
  have h600 : 0 ≤ (N : Int) ∧ (N : Int) ≤ 600 := ⟨by omega, by omega⟩
  refine lv_aload_n hx hb dL_law_614 rfl (lv_at hl 2 rfl) ?_
  refine lw_arg (k := 1) (kv := 1) G T.2.2.2.2 hl hi hL rfl ti_1 (by decide) dL_law_615 dL_law_616 dL_law_617 dL_law_618 dL_law_619 ?_
  refine lw_arg (k := 2) (kv := 2) G T.2.2.2.2 hl hi hL rfl ti_2 (by decide) dL_law_620 dL_law_621 dL_law_622 dL_law_623 dL_law_624 ?_
  refine lw_cX T (lw_runX (As := [.int (xs (5 * N + 1)), .int (xs (5 * N + 2))]) (rest := []) G T.1 T.2.2.2.2 (c_X11_doubled l D K T.1.1 vi va vg T.1.2.1 a T.1.2.2.2.1.1 T.1.2.2.2.1.2 (xs (5 * N + 1)) (xs (5 * N + 2))) m_X11_doubled rfl wm_L_58 ⟨Nat.le_of_ble_eq_true rfl, Nat.le_of_ble_eq_true rfl⟩ hf hl.1 (Nat.le_of_ble_eq_true rfl) dL_law_625) (fun r V h => h) (fun r1 V1 H locs p1 T => ?_)
  refine lv_pop hx hb dL_law_628 rfl ?_
  refine lv_aload_n hx hb dL_law_629 rfl (lv_at hl 1 rfl) ?_
  refine lw_arg (k := 1) (kv := 1) G T.2.2.2.2 hl hi hL rfl ti_1 (by decide) dL_law_630 dL_law_631 dL_law_632 dL_law_633 dL_law_634 ?_
  refine lw_arg (k := 2) (kv := 2) G T.2.2.2.2 hl hi hL rfl ti_2 (by decide) dL_law_635 dL_law_636 dL_law_637 dL_law_638 dL_law_639 ?_
  refine lw_cM T (lw_runM (As := [.int (xs (5 * N + 1)), .int (xs (5 * N + 2))]) (rest := []) G T.2.1 T.2.2.2.2 (c_X12_doubled l D Km T.2.1.1 f A T.2.1.2.1 (N : Int) b T.2.1.2.2.2.2.1.1 T.2.1.2.2.2.2.1.2 (xs (5 * N + 1)) (xs (5 * N + 2)) T.2.1.2.2.1 h600) m_X12_doubled rfl wm_L_61 ⟨Nat.le_of_ble_eq_true rfl, Nat.le_of_ble_eq_true rfl⟩ hf hl.1 (Nat.le_of_ble_eq_true rfl) dL_law_640) (fun r f' A' h => ⟨h.1, h.2.2.2, h.2.1 43 (by decide)⟩) (fun r2 f2 A2 H locs p2 T9 => ?_)
  refine lv_pop hx hb dL_law_643 rfl ?_
  refine lv_goto (tgt := 1419) hx hb dL_law_644 (by decide) ?_
  refine W.widen (k := 2000 + (N + 1)) (n := 700000 + 3 * (N + 1)) (by omega) (by omega) ?_
  exact nx _ _ _ _ _ _ _ T9 hl
set_option maxHeartbeats 4000000 in
set_option maxRecDepth 100000 in
theorem lc_11 (G : lwG p s m meth c sb L xs D) (hi : i.toInt = 5 * (N : Int)) (hL : 5 * N + 5 ≤ L) (T : lwT D s K V a Km f A b (N : Int) H locs) (hl : lv_has ls 4 [(3, .int i), (2, .ref b), (1, .ref a), (0, .ref sb)]) (nx : ∀ (K : zK) (V : zV) (f : Nat → Int32) (A : Nat → Nat → Int32) (H : Heap) (locs : List Loc) (ls : Array Slot), lwT D s K V a Km f A b ((N : Int) + 1) H locs → lv_has ls 4 [(3, .int i), (2, .ref b), (1, .ref a), (0, .ref sb)] → W p l e room_1 s m #[Value.ref sb] below meth c H locs (2000 + (N + 1)) (700000 + 3 * (N + 1)) Q (F0 m 1419 ls [])) : W p l e room_1 s m #[Value.ref sb] below meth c H locs (2000 + N) (700000 + 3 * N) Q (F0 m 647 ls []) := by
  obtain ⟨hx, hb, hr, hml, hown, hts, hX, hbl, hlocks, hgv⟩ := id G.1
  have hL2 := G.2.1
  obtain ⟨vi, va, vg⟩ := V
  have hf : (2000 + N) + 0 ≤ room_1.cells ∧ (700000 + 3 * N) + 0 ≤ room_1.slots := ⟨by show 2000 + N + 0 ≤ 600000; omega, by show 700000 + 3 * N + 0 ≤ 7302250; omega⟩
  have h600 : 0 ≤ (N : Int) ∧ (N : Int) ≤ 600 := ⟨by omega, by omega⟩
  refine lv_aload_n hx hb dL_law_647 rfl (lv_at hl 2 rfl) ?_
  refine lw_arg (k := 1) (kv := 1) G T.2.2.2.2 hl hi hL rfl ti_1 (by decide) dL_law_648 dL_law_649 dL_law_650 dL_law_651 dL_law_652 ?_
  refine lw_arg (k := 2) (kv := 2) G T.2.2.2.2 hl hi hL rfl ti_2 (by decide) dL_law_653 dL_law_654 dL_law_655 dL_law_656 dL_law_657 ?_
  refine lw_arg (k := 3) (kv := 3) G T.2.2.2.2 hl hi hL rfl ti_3 (by decide) dL_law_658 dL_law_659 dL_law_660 dL_law_661 dL_law_662 ?_
  refine lw_cX T (lw_runX (As := [.int (xs (5 * N + 1)), .int (xs (5 * N + 2)), .int (xs (5 * N + 3))]) (rest := []) G T.1 T.2.2.2.2 (c_X11_lay l D K T.1.1 vi va vg T.1.2.1 a T.1.2.2.2.1.1 T.1.2.2.2.1.2 (xs (5 * N + 1)) (xs (5 * N + 2)) (xs (5 * N + 3))) m_X11_lay rfl wm_L_62 ⟨Nat.le_of_ble_eq_true rfl, Nat.le_of_ble_eq_true rfl⟩ hf hl.1 (Nat.le_of_ble_eq_true rfl) dL_law_663) (fun r V h => h) (fun r1 V1 H locs p1 T => ?_)
  refine lv_pop hx hb dL_law_666 rfl ?_
  refine lv_aload_n hx hb dL_law_667 rfl (lv_at hl 1 rfl) ?_
  refine lw_arg (k := 1) (kv := 1) G T.2.2.2.2 hl hi hL rfl ti_1 (by decide) dL_law_668 dL_law_669 dL_law_670 dL_law_671 dL_law_672 ?_
  refine lw_arg (k := 2) (kv := 2) G T.2.2.2.2 hl hi hL rfl ti_2 (by decide) dL_law_673 dL_law_674 dL_law_675 dL_law_676 dL_law_677 ?_
  refine lw_arg (k := 3) (kv := 3) G T.2.2.2.2 hl hi hL rfl ti_3 (by decide) dL_law_678 dL_law_679 dL_law_680 dL_law_681 dL_law_682 ?_
  refine lw_cM T (lw_runM (As := [.int (xs (5 * N + 1)), .int (xs (5 * N + 2)), .int (xs (5 * N + 3))]) (rest := []) G T.2.1 T.2.2.2.2 (c_X12_lay l D Km T.2.1.1 f A T.2.1.2.1 (N : Int) b T.2.1.2.2.2.2.1.1 T.2.1.2.2.2.2.1.2 (xs (5 * N + 1)) (xs (5 * N + 2)) (xs (5 * N + 3)) T.2.1.2.2.1 h600) m_X12_lay rfl wm_L_65 ⟨Nat.le_of_ble_eq_true rfl, Nat.le_of_ble_eq_true rfl⟩ hf hl.1 (Nat.le_of_ble_eq_true rfl) dL_law_683) (fun r f' A' h => ⟨h.1, h.2.2.2, h.2.1 43 (by decide)⟩) (fun r2 f2 A2 H locs p2 T9 => ?_)
  refine lv_pop hx hb dL_law_686 rfl ?_
  refine lv_goto (tgt := 1419) hx hb dL_law_687 (by decide) ?_
  refine W.widen (k := 2000 + (N + 1)) (n := 700000 + 3 * (N + 1)) (by omega) (by omega) ?_
  exact nx _ _ _ _ _ _ _ T9 hl
end LC
