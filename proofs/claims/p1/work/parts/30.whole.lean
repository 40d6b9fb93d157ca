set_option maxHeartbeats 4000000 in
set_option maxRecDepth 100000 in
/-- THE LAW, from its entry -/
theorem whole_start {p : Program} {e : Env} {s : State} {m : MethodId} {below : List Frame} {meth : Method} {c : Code} (l : Launch) {b L : Nat} {xs : Nat → Int32} (hL : L ≤ 5) (C0 : lw_At p s m meth c b L xs) : W p l e room_1 s m #[Value.ref b] below meth c s.heap [] 0 0 (lw_Z below #[Value.ref b] s) (entryFrame m ([Value.ref b] : List Value).toArray 4) := by
  obtain ⟨sb, hsb⟩ : ∃ q, q = b := ⟨_, rfl⟩
  subst hsb
  obtain ⟨hx, hb, hr, hml, hown, hts0, hX, hbl, hlocks, hgv⟩ := id C0
  have hts := hts0
  have hA : ∀ q : Nat, s.heap.size ≤ q → (fun q : Nat => s.heap.size ≤ q) q := fun _ h => h
  have hbA : ¬ (fun q : Nat => s.heap.size ≤ q) sb := Nat.not_le.mpr hbl
  obtain ⟨k0, iS0, hKn0⟩ := u_known (C := RX0) (T := TX0) (N := 1) (n := 1) hts0 (fun w h => (gc_X0 w h).1) (hts0 (.instantiable RX0 1) (tw_t 366 (by decide +kernel)))
  obtain ⟨k1, iS1, hKn1⟩ := u_known (C := RX1) (T := TX1) (N := 18) (n := 18) hts0 (fun w h => (gc_X1 w h).1) (hts0 (.instantiable RX1 18) (tw_t 62 (by decide +kernel)))
  obtain ⟨k2, iS2, hKn2⟩ := u_known (C := RX2) (T := TX2) (N := 14) (n := 14) hts0 (fun w h => (gc_X2 w h).1) (hts0 (.instantiable RX2 14) (tw_t 245 (by decide +kernel)))
  obtain ⟨k3, iS3, hKn3⟩ := u_known (C := RX3) (T := TX3) (N := 1) (n := 1) hts0 (fun w h => (gc_X3 w h).1) (hts0 (.instantiable RX3 1) (tw_t 374 (by decide +kernel)))
  obtain ⟨k4, iS4, hKn4⟩ := u_known (C := RX5) (T := TX5) (N := 1) (n := 1) hts0 (fun w h => (gc_X5 w h).1) (hts0 (.instantiable RX5 1) (tw_t 340 (by decide +kernel)))
  obtain ⟨k5, iS5, hKn5⟩ := u_known (C := RX6) (T := TX6) (N := 7) (n := 7) hts0 (fun w h => (gc_X6 w h).1) (hts0 (.instantiable RX6 7) (tw_t 214 (by decide +kernel)))
  obtain ⟨k6, iS6, hKn6⟩ := u_known (C := RX7) (T := TX7) (N := 3) (n := 3) hts0 (fun w h => (gc_X7 w h).1) (hts0 (.instantiable RX7 3) (tw_t 379 (by decide +kernel)))
  obtain ⟨k7, iS7, hKn7⟩ := u_known (C := RX8) (T := TX8) (N := 2) (n := 2) hts0 (fun w h => (gc_X8 w h).1) (hts0 (.instantiable RX8 2) (tw_t 35 (by decide +kernel)))
  obtain ⟨k8, iS8, hKn8⟩ := u_known (C := RX9) (T := TX9) (N := 14) (n := 14) hts0 (fun w h => (gc_X9 w h).1) (hts0 (.instantiable RX9 14) (tw_t 29 (by decide +kernel)))
  obtain ⟨k9, iS9, hKn9⟩ := u_known (C := RX10) (T := TX10) (N := 1) (n := 1) hts0 (fun w h => (gc_X10 w h).1) (hts0 (.instantiable RX10 1) (tw_t 358 (by decide +kernel)))
  obtain ⟨k10, iS10, hKn10⟩ := u_known (C := RX11) (T := TX11) (N := 9) (n := 9) hts0 (fun w h => (gc_X11 w h).1) (hts0 (.instantiable RX11 9) (tw_t 18 (by decide +kernel)))
  obtain ⟨k11, iS11, hKn11⟩ := u_known (C := RX12) (T := TX12) (N := 36) (n := 36) hts0 (fun w h => (gc_X12 w h).1) (hts0 (.instantiable RX12 36) (tw_t 1010 (by decide +kernel)))
  obtain ⟨dC, dI, hKc⟩ : ∃ (dC : Nat → ClassId) (dI : Nat → Nat → Nat), ∀ (k : Nat) (q : vw_C), vwCl[k]? = some q → u_Kn s q.1 q.2.1 q.2.2 (dC k) (dI k) := by
    refine ⟨fun k => [k0, k1, k2, k3, k4, k5, k6, k7, k8, k9, k10, k11].getD k k0, fun k => [iS0, iS1, iS2, iS3, iS4, iS5, iS6, iS7, iS8, iS9, iS10, iS11].getD k iS0, ?_⟩
    intro k q hq
    match k, hq with
    | 0, hq => cases hq; exact hKn0
    | 1, hq => cases hq; exact hKn1
    | 2, hq => cases hq; exact hKn2
    | 3, hq => cases hq; exact hKn3
    | 4, hq => cases hq; exact hKn4
    | 5, hq => cases hq; exact hKn5
    | 6, hq => cases hq; exact hKn6
    | 7, hq => cases hq; exact hKn7
    | 8, hq => cases hq; exact hKn8
    | 9, hq => cases hq; exact hKn9
    | 10, hq => cases hq; exact hKn10
    | 11, hq => cases hq; exact hKn11
    | k + 12, hq => simp [vwCl] at hq
  have hAO_RX4 : va_AO RX4 s := va_AO.of (hts0 (.arrayOver (.object RX4)) (tw_t 26 (by decide +kernel)))
  have hAO_RX9 : va_AO RX9 s := va_AO.of (hts0 (.arrayOver (.object RX9)) (tw_t 28 (by decide +kernel)))
  have hAO_RX8 : va_AO RX8 s := va_AO.of (hts0 (.arrayOver (.object RX8)) (tw_t 60 (by decide +kernel)))
  have hN46 : va_Nw (.methodLinkNest RX9 46 yX1_init RX11) s := va_Nw.of rfl (hts0 (.methodLinkNest RX9 46 yX1_init RX11) (tw_t 63 (by decide +kernel)))
  have hCA5 : va_Nw (.castable RX5 RX4) s := va_Nw.of rfl (hts0 (.castable RX5 RX4) (tw_t 1524 (by decide +kernel)))
  have hCA10 : va_Nw (.castable RX10 RX4) s := va_Nw.of rfl (hts0 (.castable RX10 RX4) (tw_t 1525 (by decide +kernel)))
  have hCA0 : va_Nw (.castable RX0 RX4) s := va_Nw.of rfl (hts0 (.castable RX0 RX4) (tw_t 1526 (by decide +kernel)))
  have hCA3 : va_Nw (.castable RX3 RX4) s := va_Nw.of rfl (hts0 (.castable RX3 RX4) (tw_t 1527 (by decide +kernel)))
  have hS : va_S (fun q : Nat => s.heap.size ≤ q) s.heap s.heap [] := va_S.rf
  have hK : va_K (dC, dI) vwCl [] s := ⟨hKc, fun k q h => by simp at h⟩
  have hP : va_P (dC, dI) vwCl [] s.heap := fun k q h => by simp at h
  have hD : va_D (fun q : Nat => s.heap.size ≤ q) [] := ⟨fun i j p q h => by simp at h, fun k q h => by simp at h⟩
  have hl := lv_entry ([.ref sb]) (n := 4) (Nat.le_of_ble_eq_true rfl)
  rw [lg_entry_eq]
  generalize (lg_sl ([.ref sb]) ++ List.replicate (4 - (lg_sl ([.ref sb])).length) Slot.unset).toArray = ls at hl ⊢
  have hl : lv_has ls 4 [(0, .ref sb)] := hl
  refine va_new (ci := 10) (fs := [.null, .null, .null, .null, .null, .null, .null, .null, .null]) (C := RX11) (T := TX11) (N := 9) hx hb hts (fun w h => (gc_X11 w h).1) tyX11 tyX11_ok hown (hts0 (.classLink RL 7 RX11) (tw_t 17 (by decide +kernel))) (hts0 (.instantiable RX11 9) (tw_t 18 (by decide +kernel))) (hts0 (.initialized RX11) (tw_t 1 (by decide +kernel))) hK hP hD hS hA rfl (fun j hj => by rcases (show j = 0 ∨ j = 1 ∨ j = 2 ∨ j = 3 ∨ j = 4 ∨ j = 5 ∨ j = 6 ∨ j = 7 ∨ j = 8 by omega) with rfl | rfl | rfl | rfl | rfl | rfl | rfl | rfl | rfl <;> rfl) (Nat.le_of_ble_eq_true rfl) (Nat.le_of_ble_eq_true rfl) dL_law_0 (fun q_1 H hP hD hS => ?_)
  have hP : va_P (dC, dI) vwCl [(q_1, .inr (10, [.null, .null, .null, .null, .null, .null, .null, .null, .null]))] H := hP
  have hD : va_D (fun q : Nat => s.heap.size ≤ q) [(q_1, .inr (10, [.null, .null, .null, .null, .null, .null, .null, .null, .null]))] := hD
  refine W.widen (k := 1) (n := 9) (by omega) (by omega) ?_
  refine lv_dup hx hb dL_law_3 rfl ?_
  have hPc := hP.sub (ws' := [(q_1, .inr (10, [.null, .null, .null, .null, .null, .null, .null, .null, .null]))]) [0] rfl
  have hDc := hD.sub (ws' := [(q_1, .inr (10, [.null, .null, .null, .null, .null, .null, .null, .null, .null]))]) [0] (by decide) rfl
  have hFc := va_free (wc := [(q_1, .inr (10, [.null, .null, .null, .null, .null, .null, .null, .null, .null]))]) hD hS hA [0] rfl
  refine va_callv (va_runI (As := []) (rest := [.ref q_1]) ⟨hx, hb, hml, hown, hts⟩ (c_X_init l dC dI q_1 H.size) (cwI 0 hts gl_X11_init rfl rfl rfl (hts0 (.initialized RX11) (tw_t 1 (by decide +kernel))) (hts0 (.methodLink RL 9 yX11_init) (tw_t 19 (by decide +kernel))) (hts0 (.instanceMethod yX11_init) (tw_t 20 (by decide +kernel))) rfl (by decide +kernel) ⟨Nat.le_of_ble_eq_true rfl, Nat.le_of_ble_eq_true rfl⟩) ⟨fun a U g mk q => by obtain ⟨q0, q1, qP, qK, qD, qe0, qe1, qe2, qe3⟩ := q; exact ⟨q0, q1, qP, va_K.moved (u := U) (U := U.calling g mk a) (Vm.Alike.refl U.vm) qK, qD, va_AO.moved (u := U) (Vm.Alike.refl U.vm) qe0, va_Nw.same rfl rfl qe1, va_AO.moved (u := U) (Vm.Alike.refl U.vm) qe2, va_AO.moved (u := U) (Vm.Alike.refl U.vm) qe3⟩, fun U hU hW => ⟨rfl, by rw [hU], by rw [hU]; exact hPc, va_K.moved hW.alike hK, hDc.weaken (fun _ _ _ _ => trivial), va_AO.moved hW.alike hAO_RX8, va_Nw.warmM hW hN46, va_AO.moved hW.alike hAO_RX4, va_AO.moved hW.alike hAO_RX9⟩⟩ rfl rfl hl.1 rfl (lv_room (Nat.le_of_ble_eq_true rfl)) dL_law_4 ⟨Nat.le_of_ble_eq_true rfl, Nat.le_of_ble_eq_true rfl⟩) hS (fun q _ h => hFc q h) hFc (fun u t H1 locs ht hvm hw hB hz1 hk1 hS => ?_)
  obtain ⟨a, cG, cT, ft, TL, ha0, hT, hP1, hKX, hD1⟩ := hB
  subst ha0
  rw [ht] at hP1
  have hKX := va_K.moved hvm.symm hKX
  obtain ⟨hP, hD⟩ := va_join (wr := []) (w1 := wX a cG cT ft TL) hP hD [0] [] rfl rfl (by decide) (by decide) hk1 hFc hP1 hD1
  generalize H1 = H at hP hS ⊢
  have hP : va_P (dC, dI) vwCl (wX a cG cT ft TL) H := hP
  have hD : va_D (fun q : Nat => s.heap.size ≤ q) (wX a cG cT ft TL) := hD
  clear hPc hDc hFc hk1 hz1
  refine W.widen (k := 1123) (n := 63635) (by omega) (by omega) ?_
  refine lv_astore_n (lv' := [(1, .ref (a 0)), (0, .ref sb)]) hx hb dL_law_7 rfl hl (by decide) rfl (fun ls hl => ?_)
  refine va_new (ci := 11) (fs := [.null, .null, .null, .null, .null, .null, .int 0, .int 0, .null, .int 0, .null, .int 0, .int 0, .null, .int 0, .null, .int 0, .int 0, .null, .null, .int 0, .null, .null, .int 0, .int 0, .int 0, .null, .int 0, .int 0, .null, .null, .null, .null, .null, .int 0, .int 0]) (C := RX12) (T := TX12) (N := 36) hx hb hts (fun w h => (gc_X12 w h).1) tyX12 tyX12_ok hown (hts0 (.classLink RL 10 RX12) (tw_t 1009 (by decide +kernel))) (hts0 (.instantiable RX12 36) (tw_t 1010 (by decide +kernel))) (hts0 (.initialized RX12) (tw_t 8 (by decide +kernel))) hK hP hD hS hA rfl (fun j hj => by rcases (show j = 0 ∨ j = 1 ∨ j = 2 ∨ j = 3 ∨ j = 4 ∨ j = 5 ∨ j = 6 ∨ j = 7 ∨ j = 8 ∨ j = 9 ∨ j = 10 ∨ j = 11 ∨ j = 12 ∨ j = 13 ∨ j = 14 ∨ j = 15 ∨ j = 16 ∨ j = 17 ∨ j = 18 ∨ j = 19 ∨ j = 20 ∨ j = 21 ∨ j = 22 ∨ j = 23 ∨ j = 24 ∨ j = 25 ∨ j = 26 ∨ j = 27 ∨ j = 28 ∨ j = 29 ∨ j = 30 ∨ j = 31 ∨ j = 32 ∨ j = 33 ∨ j = 34 ∨ j = 35 by omega) with rfl | rfl | rfl | rfl | rfl | rfl | rfl | rfl | rfl | rfl | rfl | rfl | rfl | rfl | rfl | rfl | rfl | rfl | rfl | rfl | rfl | rfl | rfl | rfl | rfl | rfl | rfl | rfl | rfl | rfl | rfl | rfl | rfl | rfl | rfl | rfl <;> rfl) (Nat.le_of_ble_eq_true rfl) (Nat.le_of_ble_eq_true rfl) dL_law_8 (fun q_2 H hP hD hS => ?_)
  have hP : va_P (dC, dI) vwCl (wX a cG cT ft TL ++ [(q_2, .inr (11, [.null, .null, .null, .null, .null, .null, .int 0, .int 0, .null, .int 0, .null, .int 0, .int 0, .null, .int 0, .null, .int 0, .int 0, .null, .null, .int 0, .null, .null, .int 0, .int 0, .int 0, .null, .int 0, .int 0, .null, .null, .null, .null, .null, .int 0, .int 0]))]) H := hP
  have hD : va_D (fun q : Nat => s.heap.size ≤ q) (wX a cG cT ft TL ++ [(q_2, .inr (11, [.null, .null, .null, .null, .null, .null, .int 0, .int 0, .null, .int 0, .null, .int 0, .int 0, .null, .int 0, .null, .int 0, .int 0, .null, .null, .int 0, .null, .null, .int 0, .int 0, .int 0, .null, .int 0, .int 0, .null, .null, .null, .null, .null, .int 0, .int 0]))]) := hD
  refine W.widen (k := 1124) (n := 63671) (by omega) (by omega) ?_
  refine lv_dup hx hb dL_law_11 rfl ?_
  have hPX := ap_Pl hP
  have hPc := ap_Pr hP
  have hDX := ap_Dl hD
  have hDc := ap_Dr hD
  have hDXM := hD
  have hFc : ∀ q, va_A [(q_2, .inr (11, [.null, .null, .null, .null, .null, .null, .int 0, .int 0, .null, .int 0, .null, .int 0, .int 0, .null, .int 0, .null, .int 0, .int 0, .null, .null, .int 0, .null, .null, .int 0, .int 0, .int 0, .null, .int 0, .int 0, .null, .null, .null, .null, .null, .int 0, .int 0]))] H.size q → s.heap.size ≤ q := fun q h => h.elim (fun ⟨k, x, hk⟩ => hDc.2 k _ hk) (fun h => Nat.le_trans hS.1 h)
  refine va_callv (va_runI (As := []) (rest := [.ref q_2]) ⟨hx, hb, hml, hown, hts⟩ (c_M_init l dC dI q_2 H.size) (cwI 0 hts gl_X12_init rfl rfl rfl (hts0 (.initialized RX12) (tw_t 8 (by decide +kernel))) (hts0 (.methodLink RL 12 yX12_init) (tw_t 1011 (by decide +kernel))) (hts0 (.instanceMethod yX12_init) (tw_t 1012 (by decide +kernel))) rfl (by decide +kernel) ⟨Nat.le_of_ble_eq_true rfl, Nat.le_of_ble_eq_true rfl⟩) ⟨fun a U g mk q => by obtain ⟨q0, q1, qP, qK, qD⟩ := q; exact ⟨q0, q1, qP, va_K.moved (u := U) (U := U.calling g mk a) (Vm.Alike.refl U.vm) qK, qD⟩, fun U hU hW => ⟨rfl, by rw [hU], by rw [hU]; exact hPc, va_K.moved hW.alike hK, hDc.weaken (fun _ _ _ _ => trivial)⟩⟩ rfl rfl hl.1 rfl (lv_room (Nat.le_of_ble_eq_true rfl)) dL_law_12 ⟨Nat.le_of_ble_eq_true rfl, Nat.le_of_ble_eq_true rfl⟩) hS (fun q _ h => hFc q h) hFc (fun u t H1 locs ht hvm hw hB hz1 hk1 hS => ?_)
  obtain ⟨bm, c1, c2, c3, c4, fk, hb0, hF, hPM, hKM, hDM⟩ := hB
  rw [ht] at hPM
  have hKM := va_K.moved hvm.symm hKM
  have hout : ∀ (k : Nat) (q : Nat × va_E), (wX a cG cT ft TL)[k]? = some q → q.1 < H.size ∧ ¬ va_A [(q_2, .inr (11, [.null, .null, .null, .null, .null, .null, .int 0, .int 0, .null, .int 0, .null, .int 0, .int 0, .null, .int 0, .null, .int 0, .int 0, .null, .null, .int 0, .null, .null, .int 0, .int 0, .int 0, .null, .int 0, .int 0, .null, .null, .null, .null, .null, .int 0, .int 0]))] H.size q.1 := fun k q h => ⟨(hPX k q h).lt, fun h2 => h2.elim (fun ⟨j, x, hj⟩ => ap_ne hDXM h hj rfl) (fun h3 => by have := (hPX k q h).lt; omega)⟩
  have hPX1 : va_P (dC, dI) vwCl (wX a cG cT ft TL) H1 := fun k q h => (hPX k q h).kept (hk1 q.1 (hout k q h).1 (hout k q h).2)
  have hap : ∀ (k : Nat) (q : Nat × va_E), (wM bm c1 c2 c3 c4 fk)[k]? = some q → q.1 < H1.size ∧ ¬ va_A (wX a cG cT ft TL) H1.size q.1 := fun k q h => ⟨(hPM k q h).lt, fun h2 => h2.elim (fun ⟨j, x, hj⟩ => (hout j _ hj).2 (hDM.2 k q h)) (fun h3 => by have := (hPM k q h).lt; omega)⟩
  have hFX : ∀ q, va_A (wX a cG cT ft TL) H1.size q → s.heap.size ≤ q := fun q h => h.elim (fun ⟨k, x, hk⟩ => hDX.2 k _ hk) (fun h => Nat.le_trans hS.1 h)
  have hFM : ∀ q, va_A (wM bm c1 c2 c3 c4 fk) H1.size q → s.heap.size ≤ q := fun q h => h.elim (fun ⟨k, x, hk⟩ => hFc _ (hDM.2 k _ hk)) (fun h => Nat.le_trans hS.1 h)
  have hDX1 : va_D (fun _ => True) (wX a cG cT ft TL) := hDX.weaken (fun _ _ _ _ => trivial)
  have hDM1 : va_D (fun _ => True) (wM bm c1 c2 c3 c4 fk) := hDM.weaken (fun _ _ _ _ => trivial)
  clear hout hFc hDM hDXM hDc hPc hk1 hD hP
  subst hb0
  refine W.widen (k := 1300) (n := 700000) (by omega) (by omega) ?_
  refine lv_astore_n (lv' := [(2, .ref (bm 0)), (1, .ref (a 0)), (0, .ref sb)]) hx hb dL_law_15 rfl hl (by decide) rfl (fun ls hl => ?_)
  refine lv_iconst (v := 0) hx hb dL_law_16 (by decide) ?_
  refine lv_istore_n (lv' := [(3, .int 0), (2, .ref (bm 0)), (1, .ref (a 0)), (0, .ref sb)]) hx hb dL_law_17 rfl hl (by decide) rfl (fun ls hl => ?_)
  have hl := lv_sub hl [0, 1, 2, 3] rfl
  have hl : lv_has ls 4 [(3, .int 0), (2, .ref (bm 0)), (1, .ref (a 0)), (0, .ref sb)] := hl
  refine lv_iload_n hx hb dL_law_18 rfl (lv_at hl 0 rfl) ?_
  refine lv_aload_n hx hb dL_law_19 rfl (lv_at hl 3 rfl) ?_
  refine va_slen hx hb hX hbl hbA hS dL_law_20 ?_
  refine lv_iconst (v := 5) hx hb dL_law_21 (by decide) ?_
  refine lv_isub hx hb dL_law_22 ?_
  refine lv_icmp_gt (tgt := 1425) hx hb dL_law_23 (by decide) (fun c_1 => ?_) (fun c_1 => ?_)
  · refine lv_iconst (v := 1) hx hb dL_law_1425 (by decide) ?_
    refine va_forget (fun q hq => hS.2.2 q hq) ?_
    refine W.widen (k := 600000) (n := 7302250) (by omega) (by omega) ?_
    exact lw_ret hx hb hr hlocks dL_law_1426
  · have h5 : L = 5 := by
      rcases (show L = 0 ∨ L = 1 ∨ L = 2 ∨ L = 3 ∨ L = 4 ∨ L = 5 by omega) with rfl | rfl | rfl | rfl | rfl | rfl
      · exact absurd (by decide +kernel) c_1
      · exact absurd (by decide +kernel) c_1
      · exact absurd (by decide +kernel) c_1
      · exact absurd (by decide +kernel) c_1
      · exact absurd (by decide +kernel) c_1
      · rfl
    subst h5
    exact law_body (b := bm) ⟨C0, hT, hF, hKX, hKM, hPX1, hPM, hDX1, hDM1, hap, hFX, hFM, hS, hCA0, hCA3, hCA5, hCA10⟩ hl
set_option maxHeartbeats 4000000 in
theorem lw_walk (l : Launch) (b : Addr) (xs : List Int32) : MetFree l x (headSpec (Jvm.Cond.code x code maxLocals ret :: tables_1) room_1) (lw_P b xs) (fun _ _ _ _ _ => True) lw_Q := by
  refine MetFree.of_bodyS (code := code) (maxLocals := maxLocals) (ret := ret) (by decide) ?_ ?_
  · intro args s m h hn
    obtain ⟨meth, c, h1, h2, h3, h4, h5, h6, -, -⟩ := Cond.code_spec hn (atoms_spec (ws := Jvm.Cond.code x code maxLocals ret :: tables_1) h _ List.mem_cons_self)
    exact ⟨meth, c, h1, h2, h3, h4, h5, h6⟩
  · intro p e s m args below meth c s₁ B hml0 hP _
    obtain ⟨rfl, hx, hbd, hgv⟩ := hP
    obtain ⟨scr, harrAt, hlist, hof, hsmall⟩ := hx
    obtain ⟨hcb, hkn, -, -⟩ := State.arrayAt?_spec harrAt
    have hown : s.vm.findClass R_law = some m.cls := findClass_of_methodNamed B.named
    have hts0 : ∀ c ∈ (Jvm.Cond.code x code maxLocals ret :: tables_1), c.before #[Value.ref b] s = true := atoms_spec (ws := Jvm.Cond.code x code maxLocals ret :: tables_1) B.pre
    have hts : ∀ w ∈ lw_tbl, w.before #[Value.ref b] s = true := k2_hts_sels lw_privs (fun w hw => hts0 w (List.mem_cons_of_mem _ hw)) lw_privs_ok
    have hml : c.maxLocals = 4 := B.maxLocals_eq (hts0 _ List.mem_cons_self)
    have X₀ : Stand p l e room_1 s m #[Value.ref b] below meth c s₁ [] 0 0 := Stand.of_body B
    have hh0 : s₁.heap = s.heap := by rw [B.state]; rfl
    have hsz : scr.slots.size = xs.length := by rw [← Array.length_toList, hlist, List.length_map]
    have hval : ∀ j : Nat, j < xs.length → scr.slots[j]? = some (.int (xs.getD j 0)) := fun j hj => by
      rw [← Array.getElem?_toList, hlist]
      simp [hj]
    have hbl : b < s.heap.size := (Array.getElem?_eq_some_iff.mp hcb).1
    have hX : va_X b xs.length (fun j => xs.getD j 0) s s.heap := ⟨scr, hcb, hof, hkn, hsz, hval⟩
    have K : W p l e room_1 s m #[Value.ref b] below meth c s₁.heap [] 0 0 (lw_Z below #[Value.ref b] s) (entryFrame m ([Value.ref b] : List Value).toArray 4) := by
      rw [hh0]
      exact whole_start l hbd ⟨B.exec, B.bytes, B.returns, hml, hown, hts, hX, hbl, B.notSynchronized, hgv⟩
    obtain ⟨t, a1, o, b1, b2, b3⟩ := K s₁ rfl X₀
    exact ⟨t, o, a1, b1, b2, b3⟩
theorem lw_pre_spec {args : Array Value} {s : State} (h : (Jvm.Cond.and given_1 narrow_1).before args s = true) (hr : rest_1_c.before args s = true) : ∃ (b : Addr) (xs : List Int32), lw_P b xs args s := by
  have hs := flat_of_before _ h
  have hq := flat_of_before _ hr
  have hc : (Cond.count 1).before args s = true := hs _ (by decide +kernel)
  have harr : (Cond.arrayOf (.arg 0) .int).before args s = true := hs _ (by decide +kernel)
  have hle : (Cond.le (.length (.arg 0)) (.int 5)).before args s = true := hs _ (by decide +kernel)
  have hlen : (Cond.isInt (.length (.arg 0))).before args s = true := hq _ (by decide +kernel)
  have hall : (Cond.all (.arg 0) (.isInt (.elem (.arg 0) (.index 0)))).before args s = true := hq _ (by decide +kernel)
  obtain ⟨b, xs, hb, hx⟩ := State.ints_of_pre rfl harr hlen hall
  have hsm : xs.length < 2 ^ 31 := hx.choose_spec.2.2.2
  have hev : (Term.length (.arg 0)).eval args s none [] s = some (.int xs.length.toInt32) := hx.length_eval hb
  have hv := Cond.le_ints hev (show (Term.int 5).eval args s none [] s = some (.int 5) from rfl)
  have hd : xs.length.toInt32 ≤ 5 := by
    simpa [Cond.before, Cond.holds, hv] using hle
  have hN : xs.length ≤ 5 := (Int32.ofNat_le_ofNat hsm (by decide)).mp (show Int32.ofNat xs.length ≤ Int32.ofNat 5 from hd)
  exact ⟨b, xs, Cond.one_arg hc (show args[0]? = some (.ref b) from hb), hx, hN, h⟩
theorem lw_comes (l : Launch) : Comes l x (Jvm.Cond.code x code maxLocals ret :: tables_1) room_1 (fun tb e args s => Calls_1 tb e args s ∧ rest_1 tb e args s ∧ Pre_1 tb e args s)
    (fun _ _ args s o t => lw_Q args s o t) := by
  intro p e ha hc hk s m args below hf hfit hheap happ hpre
  obtain ⟨b, xs, hP⟩ := lw_pre_spec hpre.2.2 hpre.2.1
  obtain ⟨k, o, h1, h2, h3, hQ⟩ := lw_walk l b xs p e ha hc hk s m args below hf ((Spec.applies_iff_loose hf).mp happ).1 hP trivial
  exact ⟨k, o, h1, h2, h3, hQ⟩
theorem lw_frame {s t : State} {o : Outcome} {args : Array Value} (h : Framed s o t [] 600000 7302250) :
    Framed s o t (fieldLocs frame_1_writes args s ++ arrayLocs frame_1_arrays args s ++ staticLocs frame_1_statics s) 600000 7302250 := h
theorem lw_limb (L : Cond) (hL : ∀ (args : Array Value) (s t : State), L.after args s (.returned (some (.int 1))) t = true) :
    ArmFor flags0 classFile x code maxLocals ret World_1 tables_1 room_1 Calls_1 rest_1 Pre_1
      (fun tb e a s o t => postC L tb e a s o t ∧ Framed s o t (fieldLocs frame_1_writes a s ++ arrayLocs frame_1_arrays a s ++ staticLocs frame_1_statics s) 600000 7302250) := by
  intro l _ _ _ p e ha hc hk s m args below hf hfit hheap happ hpre
  obtain ⟨k, o, h1, h2, h3, rfl, hF⟩ := lw_comes l p e ha hc hk s m args below hf hfit hheap happ hpre
  exact ⟨k, _, h1, h2, h3, hL args s _, lw_frame hF⟩
theorem i_vc : Claimed_1_1 ∧ Claimed_1_2 := ⟨lw_limb limb_1_1 (fun args s t => by simp [limb_1_1, Cond.after, Cond.holds, Cond.value]), lw_limb limb_1_2 (fun args s t => Cond.after_iff.mpr (by
  first | (rw [show limb_1_2 = Cond.eq .result (.int 1) from rfl, Cond.eq_ints (x := 1) (y := 1) rfl rfl]; simp; done) | (simp [limb_1_2, Cond.value, Term.eval]; done)))⟩


