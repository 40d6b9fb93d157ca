section LC
variable {p : Program} {l : Launch} {e : Env} {s : State} {m : MethodId} {below : List Frame} {meth : Method} {c : Code} {H : Heap} {locs : List Loc} {Q : State → Prop}
variable {ls : Array Slot} {D : va_G} {K Km : zK} {V : zV} {f : Nat → Int32} {A : Nat → Nat → Int32} {a b sb L N : Nat} {i : Int32} {xs : Nat → Int32}
set_option maxHeartbeats 4000000 in
set_option maxRecDepth 100000 in
theorem lc_0 (G : lwG p s m meth c sb L xs D) (hi : i.toInt = 5 * (N : Int)) (hL : 5 * N + 5 ≤ L) (T : lwT D s K V a Km f A b (N : Int) H locs) (hl : lv_has ls 4 [(3, .int i), (2, .ref b), (1, .ref a), (0, .ref sb)]) (nx : ∀ (K : zK) (V : zV) (f : Nat → Int32) (A : Nat → Nat → Int32) (H : Heap) (locs : List Loc) (ls : Array Slot), lwT D s K V a Km f A b ((N : Int) + 1) H locs → lv_has ls 4 [(3, .int i), (2, .ref b), (1, .ref a), (0, .ref sb)] → W p l e room_1 s m #[Value.ref sb] below meth c H locs (2000 + (N + 1)) (700000 + 3 * (N + 1)) Q (F0 m 1419 ls [])) : W p l e room_1 s m #[Value.ref sb] below meth c H locs (2000 + N) (700000 + 3 * N) Q (F0 m 188 ls []) := by
  obtain ⟨hx, hb, hr, hml, hown, hts, hX, hbl, hlocks, hgv⟩ := id G.1
  have hL2 := G.2.1
  obtain ⟨vi, va, vg⟩ := V
  obtain ⟨X, M, hd, hag, hS⟩ := T
  refine lv_aload_n hx hb dL_law_188 rfl (lv_at hl 2 rfl) ?_
  refine lw_arg (k := 1) (kv := 1) G hS hl hi hL rfl ti_1 (by decide) dL_law_189 dL_law_190 dL_law_191 dL_law_192 dL_law_193 ?_
  refine lw_arg (k := 2) (kv := 2) G hS hl hi hL rfl ti_2 (by decide) dL_law_194 dL_law_195 dL_law_196 dL_law_197 dL_law_198 ?_
  refine lw_arg (k := 3) (kv := 3) G hS hl hi hL rfl ti_3 (by decide) dL_law_199 dL_law_200 dL_law_201 dL_law_202 dL_law_203 ?_
  refine lw_arg (k := 4) (kv := 4) G hS hl hi hL rfl ti_4 (by decide) dL_law_204 dL_law_205 dL_law_206 dL_law_207 dL_law_208 ?_
  refine va_calli (va_runV (As := [.int (xs (5 * N + 1)), .int (xs (5 * N + 2)), .int (xs (5 * N + 3)), .int (xs (5 * N + 4))]) (rest := []) (C := RX11) G.C (c_X11_game l D K X.1 vi va vg X.2.1 a X.2.2.2.1.1 X.2.2.2.1.2 X.2.2.2.2.1 X.2.2.2.2.2.1 H.size (xs (5 * N + 1)) (xs (5 * N + 2)) (xs (5 * N + 3)) (xs (5 * N + 4))) ⟨callB_of 4 G.C.2.2.2.2 (zGc m_X11_game.1.2.1) rfl rfl rfl (G.C.2.2.2.2 _ m_X11_game.1.1) (G.C.2.2.2.2 _ wm_L_13) m_X11_game.1.2.2 ⟨Nat.le_of_ble_eq_true rfl, Nat.le_of_ble_eq_true rfl⟩, G.C.2.2.2.2 _ m_X11_game.2.1, G.C.2.2.2.2 _ m_X11_game.2.2⟩ ⟨fun a U g mk q => by obtain ⟨q0, q1, q2, q3⟩ := q; exact ⟨q0, q1, (zB.blind a U g mk ⟨q0, q2⟩).2, va_Nc.moved (u := U) (U := U.calling g mk a) (Vm.Alike.refl U.vm) q3⟩, lw_recvX G X, fun U hU hW => ⟨rfl, by rw [hU], ⟨by rw [hU]; exact X.2.2.2.2.2.2.2, lw_zS G X.2.2.1 X.2.2.2.2.2.2.1 hS hU hW⟩, va_Nc.moved hW.alike G.2.2.2.2.2⟩⟩ rfl rfl hl.1 rfl (lv_room (Nat.le_of_ble_eq_true rfl)) dL_law_209 ⟨by show 2000 + N + 1 ≤ 600000; omega, by show 700000 + 3 * N + 3 ≤ 7302250; omega⟩) hS (fun q _ h => h.elim (fun h => X.2.2.2.2.2.2.1 q h) (fun h => Nat.le_trans hS.1 h)) (fun q h => h.elim (fun h => X.2.2.2.2.2.2.1 q h) (fun h => Nat.le_trans hS.1 h)) (fun r1 u t H1 locs1 ht hvm hp hB hz1 hk1 hS1 => ?_)
  obtain ⟨K', V'⟩ := u
  obtain ⟨g1, g2, g3, g4, ⟨g5, g5b⟩, g6, g7, g8, g9⟩ := hp
  have PM := M.2.2.2.2.2.2
  have hX' : lwX D s K' V' a H1 := ⟨g1, g2, hB.2.moved hvm.symm, g3.tk X.2.2.2.1, g5, g6, fun x hx => (g4 x hx).elim (fun h => X.2.2.2.2.2.2.1 x h) (fun h => Nat.le_trans hS.1 h), by rw [← ht]; exact hB.1⟩
  have hM' : lwM D s Km f A b (N : Int) H1 := ⟨M.1, M.2.1, M.2.2.1, M.2.2.2.1, M.2.2.2.2.1, M.2.2.2.2.2.1, pl_keep PM (fun x hx => hk1 x (pl_lt PM hx) (fun h9 => h9.elim (fun h => hd x h hx) (fun h => by have := pl_lt PM hx; omega)))⟩
  have hd' : ∀ x ∈ zl K', x ∉ zl Km := fun x hx hxm => (g4 x hx).elim (fun h => hd x h hxm) (fun h => by have := pl_lt PM hxm; omega)
  refine W.widen (k := 2000 + (N + 1)) (n := 700000 + 3 * (N + 1)) (by omega) (by omega) ?_
  refine lv_pop hx hb dL_law_212 rfl ?_
  refine lv_aload_n hx hb dL_law_213 rfl (lv_at hl 1 rfl) ?_
  refine lw_arg (k := 1) (kv := 1) G hS1 hl hi hL rfl ti_1 (by decide) dL_law_214 dL_law_215 dL_law_216 dL_law_217 dL_law_218 ?_
  refine lw_arg (k := 2) (kv := 2) G hS1 hl hi hL rfl ti_2 (by decide) dL_law_219 dL_law_220 dL_law_221 dL_law_222 dL_law_223 ?_
  refine lw_arg (k := 3) (kv := 3) G hS1 hl hi hL rfl ti_3 (by decide) dL_law_224 dL_law_225 dL_law_226 dL_law_227 dL_law_228 ?_
  refine lw_arg (k := 4) (kv := 4) G hS1 hl hi hL rfl ti_4 (by decide) dL_law_229 dL_law_230 dL_law_231 dL_law_232 dL_law_233 ?_
  refine lw_cM0 hX' hM' hd' hS1 (lw_runM (As := [.int (xs (5 * N + 1)), .int (xs (5 * N + 2)), .int (xs (5 * N + 3)), .int (xs (5 * N + 4))]) (rest := []) G hM' hS1 (c_X12_game l D Km M.1 f A M.2.1 b M.2.2.2.2.1.1 M.2.2.2.2.1.2 (xs (5 * N + 1)) (xs (5 * N + 2)) (xs (5 * N + 3)) (xs (5 * N + 4))) m_X12_game rfl wm_L_17 ⟨Nat.le_of_ble_eq_true rfl, Nat.le_of_ble_eq_true rfl⟩ ⟨by show 2000 + (N + 1) + 0 ≤ 600000; omega, by show 700000 + 3 * (N + 1) + 0 ≤ 7302250; omega⟩ hl.1 (Nat.le_of_ble_eq_true rfl) dL_law_234) (fun r f' A' h => ⟨h.1, M.2.2.1.same (by omega) (h.2.1 40 (by decide)) (h.2.2.1 23 (by decide)) (h.2.2.1 20 (by decide)) (by rw [h.2.2.1 11 (by decide)]; omega) (by rw [h.2.2.1 9 (by decide)]; omega)⟩) (fun r2 f2 A2 H2 locs2 p2 X2 M2 hS2 => ?_)
  have e9 : r1 = r2 := (fa_eq _ _).mpr (gaR.one g7 (gaR.cg hag p2.2.2.2.1))
  refine lv_pop hx hb dL_law_237 rfl ?_
  refine lv_goto (tgt := 1419) hx hb dL_law_238 (by decide) ?_
  refine nx K' V' f2 A2 H2 locs2 ls ⟨X2, M2, hd', fun j hj => ?_, hS2⟩ hl
  by_cases h1 : r2.toInt = 1
  · rw [p2.2.2.2.2.1 h1, g8 (by rw [e9]; exact h1) j hj]
    by_cases c : j = (xs (5 * N + 1)).toNatClampNeg
    · rw [c, pk_us, pk_us]
    · rw [pk_un c, pk_un c]; exact hag j hj
  · rw [p2.2.2.2.2.2 h1, g9 (by rw [e9]; exact h1) j hj]; exact hag j hj
end LC
