set_option maxHeartbeats 4000000 in
set_option maxRecDepth 100000 in
theorem law_case_9 {p : Program} {l : Launch} {e : Env} {s : State} {m : MethodId} {below : List Frame} {meth : Method} {c : Code} {dC : Nat → ClassId} {dI : Nat → Nat → Nat} {sb : Nat} {xs : Nat → Int32} {a : Nat → Nat} {cG cT : ClassId} {ft : Nat → Option Nat} {TL : va_W} {b : Nat → Nat} {c1 c2 c3 c4 : ClassId} {fk : Nat → Int32} {H : Heap} {locs : List Loc} (C : lw_St p s m meth c dC dI sb xs a cG cT ft TL b c1 c2 c3 c4 fk H locs) {ls : Array Slot} (hl : lv_has ls 4 [(3, .int 0), (2, .ref (b 0)), (1, .ref (a 0)), (0, .ref sb)]) : W p l e room_1 s m #[Value.ref sb] below meth c H locs 1300 700000 (lw_Z below #[Value.ref sb] s) (F0 m 561 ls []) := by
  obtain ⟨C0, hT, hF, hKX, hKM, hPX, hPM, hDX, hDM, hap, hFX, hFM, hS, hCA0, hCA3, hCA5, hCA10⟩ := C
  obtain ⟨hx, hb, hr, hml, hown, hts, hX, hbl, hlocks, hgv⟩ := id C0
  have hbA : ¬ (fun q : Nat => s.heap.size ≤ q) sb := Nat.not_le.mpr hbl
  obtain ⟨v1, hv1⟩ : ∃ v, xs (1 : Int32).toNatClampNeg = v := ⟨_, rfl⟩
  obtain ⟨v2, hv2⟩ : ∃ v, xs (2 : Int32).toNatClampNeg = v := ⟨_, rfl⟩
  obtain ⟨v3, hv3⟩ : ∃ v, xs (3 : Int32).toNatClampNeg = v := ⟨_, rfl⟩
  obtain ⟨v4, hv4⟩ : ∃ v, xs (4 : Int32).toNatClampNeg = v := ⟨_, rfl⟩
  refine lv_aload_n hx hb dL_law_561 rfl (lv_at hl 2 rfl) ?_
  refine lv_aload_n hx hb dL_law_562 rfl (lv_at hl 3 rfl) ?_
  refine lv_iload_n hx hb dL_law_563 rfl (lv_at hl 0 rfl) ?_
  refine lv_iconst (v := 1) hx hb dL_law_564 (by decide) ?_
  refine lv_iadd hx hb dL_law_565 ?_
  refine lv_topi (fun x_1 ex_1 => ?_)
  obtain rfl : x_1 = 1 := ex_1.trans (by decide +kernel)
  refine va_sld hx hb hX hbl hbA hS (by unfold vp_in; decide +kernel) dL_law_566 ?_
  refine lv_topi (fun x_2 ex_2 => ?_)
  obtain rfl : v1 = x_2 := (ex_2.trans hv1).symm
  refine lv_aload_n hx hb dL_law_567 rfl (lv_at hl 3 rfl) ?_
  refine lv_iload_n hx hb dL_law_568 rfl (lv_at hl 0 rfl) ?_
  refine lv_iconst (v := 2) hx hb dL_law_569 (by decide) ?_
  refine lv_iadd hx hb dL_law_570 ?_
  refine lv_topi (fun x_3 ex_3 => ?_)
  obtain rfl : x_3 = 2 := ex_3.trans (by decide +kernel)
  refine va_sld hx hb hX hbl hbA hS (by unfold vp_in; decide +kernel) dL_law_571 ?_
  refine lv_topi (fun x_4 ex_4 => ?_)
  obtain rfl : v2 = x_4 := (ex_4.trans hv2).symm
  refine lv_aload_n hx hb dL_law_572 rfl (lv_at hl 3 rfl) ?_
  refine lv_iload_n hx hb dL_law_573 rfl (lv_at hl 0 rfl) ?_
  refine lv_iconst (v := 3) hx hb dL_law_574 (by decide) ?_
  refine lv_iadd hx hb dL_law_575 ?_
  refine lv_topi (fun x_5 ex_5 => ?_)
  obtain rfl : x_5 = 3 := ex_5.trans (by decide +kernel)
  refine va_sld hx hb hX hbl hbA hS (by unfold vp_in; decide +kernel) dL_law_576 ?_
  refine lv_topi (fun x_6 ex_6 => ?_)
  obtain rfl : v3 = x_6 := (ex_6.trans hv3).symm
  refine lv_aload_n hx hb dL_law_577 rfl (lv_at hl 3 rfl) ?_
  refine lv_iload_n hx hb dL_law_578 rfl (lv_at hl 0 rfl) ?_
  refine lv_iconst (v := 4) hx hb dL_law_579 (by decide) ?_
  refine lv_iadd hx hb dL_law_580 ?_
  refine lv_topi (fun x_7 ex_7 => ?_)
  obtain rfl : x_7 = 4 := ex_7.trans (by decide +kernel)
  refine va_sld hx hb hX hbl hbA hS (by unfold vp_in; decide +kernel) dL_law_581 ?_
  refine lv_topi (fun x_8 ex_8 => ?_)
  obtain rfl : v4 = x_8 := (ex_8.trans hv4).symm
  refine vp_callSi (va_Run.run (va_runV (As := [.int v1, .int v2, .int v3, .int v4]) (rest := []) ⟨hx, hb, hml, hown, hts⟩ (c_X11_bid l dC dI a cG cT ft TL hT v1 v2 v3 v4) (cwV 4 hts gv_RL_54 rfl rfl rfl (by decide +kernel) ⟨Nat.le_of_ble_eq_true rfl, Nat.le_of_ble_eq_true rfl⟩) ⟨fun a U g mk q => by obtain ⟨q0, qP, qK⟩ := q; exact ⟨q0, qP, va_K.moved (u := U) (U := U.calling g mk a) (Vm.Alike.refl U.vm) qK⟩, va_recv hKX hPX (ci := 10) (q0 := 0) rfl rfl, fun U hU hW => ⟨rfl, by rw [hU]; exact hPX, va_K.moved hW.alike hKX⟩⟩ rfl rfl hl.1 rfl (lv_room (Nat.le_of_ble_eq_true rfl)) dL_law_582 ⟨Nat.le_of_ble_eq_true rfl, Nat.le_of_ble_eq_true rfl⟩)) (fun r_9 e_9 => ?_)
  refine lv_aload_n hx hb dL_law_585 rfl (lv_at hl 1 rfl) ?_
  refine lv_aload_n hx hb dL_law_586 rfl (lv_at hl 3 rfl) ?_
  refine lv_iload_n hx hb dL_law_587 rfl (lv_at hl 0 rfl) ?_
  refine lv_iconst (v := 1) hx hb dL_law_588 (by decide) ?_
  refine lv_iadd hx hb dL_law_589 ?_
  refine lv_topi (fun x_10 ex_10 => ?_)
  obtain rfl : x_10 = 1 := ex_10.trans (by decide +kernel)
  refine va_sld hx hb hX hbl hbA hS (by unfold vp_in; decide +kernel) dL_law_590 ?_
  refine lv_topi (fun x_11 ex_11 => ?_)
  obtain rfl : v1 = x_11 := (ex_11.trans hv1).symm
  refine lv_aload_n hx hb dL_law_591 rfl (lv_at hl 3 rfl) ?_
  refine lv_iload_n hx hb dL_law_592 rfl (lv_at hl 0 rfl) ?_
  refine lv_iconst (v := 2) hx hb dL_law_593 (by decide) ?_
  refine lv_iadd hx hb dL_law_594 ?_
  refine lv_topi (fun x_12 ex_12 => ?_)
  obtain rfl : x_12 = 2 := ex_12.trans (by decide +kernel)
  refine va_sld hx hb hX hbl hbA hS (by unfold vp_in; decide +kernel) dL_law_595 ?_
  refine lv_topi (fun x_13 ex_13 => ?_)
  obtain rfl : v2 = x_13 := (ex_13.trans hv2).symm
  refine lv_aload_n hx hb dL_law_596 rfl (lv_at hl 3 rfl) ?_
  refine lv_iload_n hx hb dL_law_597 rfl (lv_at hl 0 rfl) ?_
  refine lv_iconst (v := 3) hx hb dL_law_598 (by decide) ?_
  refine lv_iadd hx hb dL_law_599 ?_
  refine lv_topi (fun x_14 ex_14 => ?_)
  obtain rfl : x_14 = 3 := ex_14.trans (by decide +kernel)
  refine va_sld hx hb hX hbl hbA hS (by unfold vp_in; decide +kernel) dL_law_600 ?_
  refine lv_topi (fun x_15 ex_15 => ?_)
  obtain rfl : v3 = x_15 := (ex_15.trans hv3).symm
  refine lv_aload_n hx hb dL_law_601 rfl (lv_at hl 3 rfl) ?_
  refine lv_iload_n hx hb dL_law_602 rfl (lv_at hl 0 rfl) ?_
  refine lv_iconst (v := 4) hx hb dL_law_603 (by decide) ?_
  refine lv_iadd hx hb dL_law_604 ?_
  refine lv_topi (fun x_16 ex_16 => ?_)
  obtain rfl : x_16 = 4 := ex_16.trans (by decide +kernel)
  refine va_sld hx hb hX hbl hbA hS (by unfold vp_in; decide +kernel) dL_law_605 ?_
  refine lv_topi (fun x_17 ex_17 => ?_)
  obtain rfl : v4 = x_17 := (ex_17.trans hv4).symm
  refine vp_callSi (va_Run.run (va_runV (As := [.int v1, .int v2, .int v3, .int v4]) (rest := [.int r_9]) ⟨hx, hb, hml, hown, hts⟩ (c_X12_bid l dC dI b c1 c2 c3 c4 fk hF v1 v2 v3 v4) (cwV 4 hts gv_RL_57 rfl rfl rfl (by decide +kernel) ⟨Nat.le_of_ble_eq_true rfl, Nat.le_of_ble_eq_true rfl⟩) ⟨fun a U g mk q => by obtain ⟨q0, qP, qK⟩ := q; exact ⟨q0, qP, va_K.moved (u := U) (U := U.calling g mk a) (Vm.Alike.refl U.vm) qK⟩, va_recv hKM hPM (ci := 11) (q0 := 0) rfl rfl, fun U hU hW => ⟨rfl, by rw [hU]; exact hPM, va_K.moved hW.alike hKM⟩⟩ rfl rfl hl.1 rfl (lv_room (Nat.le_of_ble_eq_true rfl)) dL_law_606 ⟨Nat.le_of_ble_eq_true rfl, Nat.le_of_ble_eq_true rfl⟩)) (fun r_18 e_18 => ?_)
  obtain rfl : r_9 = r_18 := e_9.trans e_18.symm
  refine lv_icmp_eq (tgt := 1419) hx hb dL_law_609 (by decide) (fun c_19 => ?_) (fun c_19 => absurd rfl c_19)
  refine W.widen (k := 1305) (n := 700005) (by omega) (by omega) ?_
  exact law_next C0 hS hl
set_option maxHeartbeats 4000000 in
set_option maxRecDepth 100000 in
theorem law_case_10 {p : Program} {l : Launch} {e : Env} {s : State} {m : MethodId} {below : List Frame} {meth : Method} {c : Code} {dC : Nat → ClassId} {dI : Nat → Nat → Nat} {sb : Nat} {xs : Nat → Int32} {a : Nat → Nat} {cG cT : ClassId} {ft : Nat → Option Nat} {TL : va_W} {b : Nat → Nat} {c1 c2 c3 c4 : ClassId} {fk : Nat → Int32} {H : Heap} {locs : List Loc} (C : lw_St p s m meth c dC dI sb xs a cG cT ft TL b c1 c2 c3 c4 fk H locs) {ls : Array Slot} (hl : lv_has ls 4 [(3, .int 0), (2, .ref (b 0)), (1, .ref (a 0)), (0, .ref sb)]) : W p l e room_1 s m #[Value.ref sb] below meth c H locs 1300 700000 (lw_Z below #[Value.ref sb] s) (F0 m 614 ls []) := by
  obtain ⟨C0, hT, hF, hKX, hKM, hPX, hPM, hDX, hDM, hap, hFX, hFM, hS, hCA0, hCA3, hCA5, hCA10⟩ := C
  obtain ⟨hx, hb, hr, hml, hown, hts, hX, hbl, hlocks, hgv⟩ := id C0
  have hbA : ¬ (fun q : Nat => s.heap.size ≤ q) sb := Nat.not_le.mpr hbl
  obtain ⟨v1, hv1⟩ : ∃ v, xs (1 : Int32).toNatClampNeg = v := ⟨_, rfl⟩
  obtain ⟨v2, hv2⟩ : ∃ v, xs (2 : Int32).toNatClampNeg = v := ⟨_, rfl⟩
  obtain ⟨v3, hv3⟩ : ∃ v, xs (3 : Int32).toNatClampNeg = v := ⟨_, rfl⟩
  obtain ⟨v4, hv4⟩ : ∃ v, xs (4 : Int32).toNatClampNeg = v := ⟨_, rfl⟩
  refine lv_aload_n hx hb dL_law_614 rfl (lv_at hl 2 rfl) ?_
  refine lv_aload_n hx hb dL_law_615 rfl (lv_at hl 3 rfl) ?_
  refine lv_iload_n hx hb dL_law_616 rfl (lv_at hl 0 rfl) ?_
  refine lv_iconst (v := 1) hx hb dL_law_617 (by decide) ?_
  refine lv_iadd hx hb dL_law_618 ?_
  refine lv_topi (fun x_1 ex_1 => ?_)
  obtain rfl : x_1 = 1 := ex_1.trans (by decide +kernel)
  refine va_sld hx hb hX hbl hbA hS (by unfold vp_in; decide +kernel) dL_law_619 ?_
  refine lv_topi (fun x_2 ex_2 => ?_)
  obtain rfl : v1 = x_2 := (ex_2.trans hv1).symm
  refine lv_aload_n hx hb dL_law_620 rfl (lv_at hl 3 rfl) ?_
  refine lv_iload_n hx hb dL_law_621 rfl (lv_at hl 0 rfl) ?_
  refine lv_iconst (v := 2) hx hb dL_law_622 (by decide) ?_
  refine lv_iadd hx hb dL_law_623 ?_
  refine lv_topi (fun x_3 ex_3 => ?_)
  obtain rfl : x_3 = 2 := ex_3.trans (by decide +kernel)
  refine va_sld hx hb hX hbl hbA hS (by unfold vp_in; decide +kernel) dL_law_624 ?_
  refine lv_topi (fun x_4 ex_4 => ?_)
  obtain rfl : v2 = x_4 := (ex_4.trans hv2).symm
  refine vp_callSi (va_Run.run (va_runV (As := [.int v1, .int v2]) (rest := []) ⟨hx, hb, hml, hown, hts⟩ (c_X11_doubled l dC dI a cG cT ft TL hT v1 v2) (cwV 2 hts gv_RL_58 rfl rfl rfl (by decide +kernel) ⟨Nat.le_of_ble_eq_true rfl, Nat.le_of_ble_eq_true rfl⟩) ⟨fun a U g mk q => by obtain ⟨q0, qP, qK⟩ := q; exact ⟨q0, qP, va_K.moved (u := U) (U := U.calling g mk a) (Vm.Alike.refl U.vm) qK⟩, va_recv hKX hPX (ci := 10) (q0 := 0) rfl rfl, fun U hU hW => ⟨rfl, by rw [hU]; exact hPX, va_K.moved hW.alike hKX⟩⟩ rfl rfl hl.1 rfl (lv_room (Nat.le_of_ble_eq_true rfl)) dL_law_625 ⟨Nat.le_of_ble_eq_true rfl, Nat.le_of_ble_eq_true rfl⟩)) (fun r_5 e_5 => ?_)
  refine lv_aload_n hx hb dL_law_628 rfl (lv_at hl 1 rfl) ?_
  refine lv_aload_n hx hb dL_law_629 rfl (lv_at hl 3 rfl) ?_
  refine lv_iload_n hx hb dL_law_630 rfl (lv_at hl 0 rfl) ?_
  refine lv_iconst (v := 1) hx hb dL_law_631 (by decide) ?_
  refine lv_iadd hx hb dL_law_632 ?_
  refine lv_topi (fun x_6 ex_6 => ?_)
  obtain rfl : x_6 = 1 := ex_6.trans (by decide +kernel)
  refine va_sld hx hb hX hbl hbA hS (by unfold vp_in; decide +kernel) dL_law_633 ?_
  refine lv_topi (fun x_7 ex_7 => ?_)
  obtain rfl : v1 = x_7 := (ex_7.trans hv1).symm
  refine lv_aload_n hx hb dL_law_634 rfl (lv_at hl 3 rfl) ?_
  refine lv_iload_n hx hb dL_law_635 rfl (lv_at hl 0 rfl) ?_
  refine lv_iconst (v := 2) hx hb dL_law_636 (by decide) ?_
  refine lv_iadd hx hb dL_law_637 ?_
  refine lv_topi (fun x_8 ex_8 => ?_)
  obtain rfl : x_8 = 2 := ex_8.trans (by decide +kernel)
  refine va_sld hx hb hX hbl hbA hS (by unfold vp_in; decide +kernel) dL_law_638 ?_
  refine lv_topi (fun x_9 ex_9 => ?_)
  obtain rfl : v2 = x_9 := (ex_9.trans hv2).symm
  refine vp_callSi (va_Run.run (va_runV (As := [.int v1, .int v2]) (rest := [.int r_5]) ⟨hx, hb, hml, hown, hts⟩ (c_X12_doubled l dC dI b c1 c2 c3 c4 fk hF v1 v2) (cwV 2 hts gv_RL_61 rfl rfl rfl (by decide +kernel) ⟨Nat.le_of_ble_eq_true rfl, Nat.le_of_ble_eq_true rfl⟩) ⟨fun a U g mk q => by obtain ⟨q0, qP, qK⟩ := q; exact ⟨q0, qP, va_K.moved (u := U) (U := U.calling g mk a) (Vm.Alike.refl U.vm) qK⟩, va_recv hKM hPM (ci := 11) (q0 := 0) rfl rfl, fun U hU hW => ⟨rfl, by rw [hU]; exact hPM, va_K.moved hW.alike hKM⟩⟩ rfl rfl hl.1 rfl (lv_room (Nat.le_of_ble_eq_true rfl)) dL_law_639 ⟨Nat.le_of_ble_eq_true rfl, Nat.le_of_ble_eq_true rfl⟩)) (fun r_10 e_10 => ?_)
  obtain rfl : r_5 = r_10 := e_5.trans e_10.symm
  refine lv_icmp_eq (tgt := 1419) hx hb dL_law_642 (by decide) (fun c_11 => ?_) (fun c_11 => absurd rfl c_11)
  refine W.widen (k := 1305) (n := 700005) (by omega) (by omega) ?_
  exact law_next C0 hS hl
set_option maxHeartbeats 4000000 in
set_option maxRecDepth 100000 in
theorem law_case_11 {p : Program} {l : Launch} {e : Env} {s : State} {m : MethodId} {below : List Frame} {meth : Method} {c : Code} {dC : Nat → ClassId} {dI : Nat → Nat → Nat} {sb : Nat} {xs : Nat → Int32} {a : Nat → Nat} {cG cT : ClassId} {ft : Nat → Option Nat} {TL : va_W} {b : Nat → Nat} {c1 c2 c3 c4 : ClassId} {fk : Nat → Int32} {H : Heap} {locs : List Loc} (C : lw_St p s m meth c dC dI sb xs a cG cT ft TL b c1 c2 c3 c4 fk H locs) {ls : Array Slot} (hl : lv_has ls 4 [(3, .int 0), (2, .ref (b 0)), (1, .ref (a 0)), (0, .ref sb)]) : W p l e room_1 s m #[Value.ref sb] below meth c H locs 1300 700000 (lw_Z below #[Value.ref sb] s) (F0 m 647 ls []) := by
  obtain ⟨C0, hT, hF, hKX, hKM, hPX, hPM, hDX, hDM, hap, hFX, hFM, hS, hCA0, hCA3, hCA5, hCA10⟩ := C
  obtain ⟨hx, hb, hr, hml, hown, hts, hX, hbl, hlocks, hgv⟩ := id C0
  have hbA : ¬ (fun q : Nat => s.heap.size ≤ q) sb := Nat.not_le.mpr hbl
  obtain ⟨v1, hv1⟩ : ∃ v, xs (1 : Int32).toNatClampNeg = v := ⟨_, rfl⟩
  obtain ⟨v2, hv2⟩ : ∃ v, xs (2 : Int32).toNatClampNeg = v := ⟨_, rfl⟩
  obtain ⟨v3, hv3⟩ : ∃ v, xs (3 : Int32).toNatClampNeg = v := ⟨_, rfl⟩
  obtain ⟨v4, hv4⟩ : ∃ v, xs (4 : Int32).toNatClampNeg = v := ⟨_, rfl⟩
  refine lv_aload_n hx hb dL_law_647 rfl (lv_at hl 2 rfl) ?_
  refine lv_aload_n hx hb dL_law_648 rfl (lv_at hl 3 rfl) ?_
  refine lv_iload_n hx hb dL_law_649 rfl (lv_at hl 0 rfl) ?_
  refine lv_iconst (v := 1) hx hb dL_law_650 (by decide) ?_
  refine lv_iadd hx hb dL_law_651 ?_
  refine lv_topi (fun x_1 ex_1 => ?_)
  obtain rfl : x_1 = 1 := ex_1.trans (by decide +kernel)
  refine va_sld hx hb hX hbl hbA hS (by unfold vp_in; decide +kernel) dL_law_652 ?_
  refine lv_topi (fun x_2 ex_2 => ?_)
  obtain rfl : v1 = x_2 := (ex_2.trans hv1).symm
  refine lv_aload_n hx hb dL_law_653 rfl (lv_at hl 3 rfl) ?_
  refine lv_iload_n hx hb dL_law_654 rfl (lv_at hl 0 rfl) ?_
  refine lv_iconst (v := 2) hx hb dL_law_655 (by decide) ?_
  refine lv_iadd hx hb dL_law_656 ?_
  refine lv_topi (fun x_3 ex_3 => ?_)
  obtain rfl : x_3 = 2 := ex_3.trans (by decide +kernel)
  refine va_sld hx hb hX hbl hbA hS (by unfold vp_in; decide +kernel) dL_law_657 ?_
  refine lv_topi (fun x_4 ex_4 => ?_)
  obtain rfl : v2 = x_4 := (ex_4.trans hv2).symm
  refine lv_aload_n hx hb dL_law_658 rfl (lv_at hl 3 rfl) ?_
  refine lv_iload_n hx hb dL_law_659 rfl (lv_at hl 0 rfl) ?_
  refine lv_iconst (v := 3) hx hb dL_law_660 (by decide) ?_
  refine lv_iadd hx hb dL_law_661 ?_
  refine lv_topi (fun x_5 ex_5 => ?_)
  obtain rfl : x_5 = 3 := ex_5.trans (by decide +kernel)
  refine va_sld hx hb hX hbl hbA hS (by unfold vp_in; decide +kernel) dL_law_662 ?_
  refine lv_topi (fun x_6 ex_6 => ?_)
  obtain rfl : v3 = x_6 := (ex_6.trans hv3).symm
  refine vp_callSi (va_Run.run (va_runV (As := [.int v1, .int v2, .int v3]) (rest := []) ⟨hx, hb, hml, hown, hts⟩ (c_X11_lay l dC dI a cG cT ft TL hT v1 v2 v3) (cwV 3 hts gv_RL_62 rfl rfl rfl (by decide +kernel) ⟨Nat.le_of_ble_eq_true rfl, Nat.le_of_ble_eq_true rfl⟩) ⟨fun a U g mk q => by obtain ⟨q0, qP, qK⟩ := q; exact ⟨q0, qP, va_K.moved (u := U) (U := U.calling g mk a) (Vm.Alike.refl U.vm) qK⟩, va_recv hKX hPX (ci := 10) (q0 := 0) rfl rfl, fun U hU hW => ⟨rfl, by rw [hU]; exact hPX, va_K.moved hW.alike hKX⟩⟩ rfl rfl hl.1 rfl (lv_room (Nat.le_of_ble_eq_true rfl)) dL_law_663 ⟨Nat.le_of_ble_eq_true rfl, Nat.le_of_ble_eq_true rfl⟩)) (fun r_7 e_7 => ?_)
  refine lv_aload_n hx hb dL_law_666 rfl (lv_at hl 1 rfl) ?_
  refine lv_aload_n hx hb dL_law_667 rfl (lv_at hl 3 rfl) ?_
  refine lv_iload_n hx hb dL_law_668 rfl (lv_at hl 0 rfl) ?_
  refine lv_iconst (v := 1) hx hb dL_law_669 (by decide) ?_
  refine lv_iadd hx hb dL_law_670 ?_
  refine lv_topi (fun x_8 ex_8 => ?_)
  obtain rfl : x_8 = 1 := ex_8.trans (by decide +kernel)
  refine va_sld hx hb hX hbl hbA hS (by unfold vp_in; decide +kernel) dL_law_671 ?_
  refine lv_topi (fun x_9 ex_9 => ?_)
  obtain rfl : v1 = x_9 := (ex_9.trans hv1).symm
  refine lv_aload_n hx hb dL_law_672 rfl (lv_at hl 3 rfl) ?_
  refine lv_iload_n hx hb dL_law_673 rfl (lv_at hl 0 rfl) ?_
  refine lv_iconst (v := 2) hx hb dL_law_674 (by decide) ?_
  refine lv_iadd hx hb dL_law_675 ?_
  refine lv_topi (fun x_10 ex_10 => ?_)
  obtain rfl : x_10 = 2 := ex_10.trans (by decide +kernel)
  refine va_sld hx hb hX hbl hbA hS (by unfold vp_in; decide +kernel) dL_law_676 ?_
  refine lv_topi (fun x_11 ex_11 => ?_)
  obtain rfl : v2 = x_11 := (ex_11.trans hv2).symm
  refine lv_aload_n hx hb dL_law_677 rfl (lv_at hl 3 rfl) ?_
  refine lv_iload_n hx hb dL_law_678 rfl (lv_at hl 0 rfl) ?_
  refine lv_iconst (v := 3) hx hb dL_law_679 (by decide) ?_
  refine lv_iadd hx hb dL_law_680 ?_
  refine lv_topi (fun x_12 ex_12 => ?_)
  obtain rfl : x_12 = 3 := ex_12.trans (by decide +kernel)
  refine va_sld hx hb hX hbl hbA hS (by unfold vp_in; decide +kernel) dL_law_681 ?_
  refine lv_topi (fun x_13 ex_13 => ?_)
  obtain rfl : v3 = x_13 := (ex_13.trans hv3).symm
  refine vp_callSi (va_Run.run (va_runV (As := [.int v1, .int v2, .int v3]) (rest := [.int r_7]) ⟨hx, hb, hml, hown, hts⟩ (c_X12_lay l dC dI b c1 c2 c3 c4 fk hF v1 v2 v3) (cwV 3 hts gv_RL_65 rfl rfl rfl (by decide +kernel) ⟨Nat.le_of_ble_eq_true rfl, Nat.le_of_ble_eq_true rfl⟩) ⟨fun a U g mk q => by obtain ⟨q0, qP, qK⟩ := q; exact ⟨q0, qP, va_K.moved (u := U) (U := U.calling g mk a) (Vm.Alike.refl U.vm) qK⟩, va_recv hKM hPM (ci := 11) (q0 := 0) rfl rfl, fun U hU hW => ⟨rfl, by rw [hU]; exact hPM, va_K.moved hW.alike hKM⟩⟩ rfl rfl hl.1 rfl (lv_room (Nat.le_of_ble_eq_true rfl)) dL_law_682 ⟨Nat.le_of_ble_eq_true rfl, Nat.le_of_ble_eq_true rfl⟩)) (fun r_14 e_14 => ?_)
  obtain rfl : r_7 = r_14 := e_7.trans e_14.symm
  refine lv_icmp_eq (tgt := 1419) hx hb dL_law_685 (by decide) (fun c_15 => ?_) (fun c_15 => absurd rfl c_15)
  refine W.widen (k := 1305) (n := 700005) (by omega) (by omega) ?_
  exact law_next C0 hS hl
set_option maxHeartbeats 4000000 in
set_option maxRecDepth 100000 in
theorem law_case_12 {p : Program} {l : Launch} {e : Env} {s : State} {m : MethodId} {below : List Frame} {meth : Method} {c : Code} {dC : Nat → ClassId} {dI : Nat → Nat → Nat} {sb : Nat} {xs : Nat → Int32} {a : Nat → Nat} {cG cT : ClassId} {ft : Nat → Option Nat} {TL : va_W} {b : Nat → Nat} {c1 c2 c3 c4 : ClassId} {fk : Nat → Int32} {H : Heap} {locs : List Loc} (C : lw_St p s m meth c dC dI sb xs a cG cT ft TL b c1 c2 c3 c4 fk H locs) {ls : Array Slot} (hl : lv_has ls 4 [(3, .int 0), (2, .ref (b 0)), (1, .ref (a 0)), (0, .ref sb)]) : W p l e room_1 s m #[Value.ref sb] below meth c H locs 1300 700000 (lw_Z below #[Value.ref sb] s) (F0 m 690 ls []) := by
  obtain ⟨C0, hT, hF, hKX, hKM, hPX, hPM, hDX, hDM, hap, hFX, hFM, hS, hCA0, hCA3, hCA5, hCA10⟩ := C
  obtain ⟨hx, hb, hr, hml, hown, hts, hX, hbl, hlocks, hgv⟩ := id C0
  have hbA : ¬ (fun q : Nat => s.heap.size ≤ q) sb := Nat.not_le.mpr hbl
  obtain ⟨v1, hv1⟩ : ∃ v, xs (1 : Int32).toNatClampNeg = v := ⟨_, rfl⟩
  obtain ⟨v2, hv2⟩ : ∃ v, xs (2 : Int32).toNatClampNeg = v := ⟨_, rfl⟩
  obtain ⟨v3, hv3⟩ : ∃ v, xs (3 : Int32).toNatClampNeg = v := ⟨_, rfl⟩
  obtain ⟨v4, hv4⟩ : ∃ v, xs (4 : Int32).toNatClampNeg = v := ⟨_, rfl⟩
  refine lv_aload_n hx hb dL_law_690 rfl (lv_at hl 2 rfl) ?_
  refine lv_aload_n hx hb dL_law_691 rfl (lv_at hl 3 rfl) ?_
  refine lv_iload_n hx hb dL_law_692 rfl (lv_at hl 0 rfl) ?_
  refine lv_iconst (v := 1) hx hb dL_law_693 (by decide) ?_
  refine lv_iadd hx hb dL_law_694 ?_
  refine lv_topi (fun x_1 ex_1 => ?_)
  obtain rfl : x_1 = 1 := ex_1.trans (by decide +kernel)
  refine va_sld hx hb hX hbl hbA hS (by unfold vp_in; decide +kernel) dL_law_695 ?_
  refine lv_topi (fun x_2 ex_2 => ?_)
  obtain rfl : v1 = x_2 := (ex_2.trans hv1).symm
  refine lv_aload_n hx hb dL_law_696 rfl (lv_at hl 3 rfl) ?_
  refine lv_iload_n hx hb dL_law_697 rfl (lv_at hl 0 rfl) ?_
  refine lv_iconst (v := 2) hx hb dL_law_698 (by decide) ?_
  refine lv_iadd hx hb dL_law_699 ?_
  refine lv_topi (fun x_3 ex_3 => ?_)
  obtain rfl : x_3 = 2 := ex_3.trans (by decide +kernel)
  refine va_sld hx hb hX hbl hbA hS (by unfold vp_in; decide +kernel) dL_law_700 ?_
  refine lv_topi (fun x_4 ex_4 => ?_)
  obtain rfl : v2 = x_4 := (ex_4.trans hv2).symm
  refine lv_aload_n hx hb dL_law_701 rfl (lv_at hl 3 rfl) ?_
  refine lv_iload_n hx hb dL_law_702 rfl (lv_at hl 0 rfl) ?_
  refine lv_iconst (v := 3) hx hb dL_law_703 (by decide) ?_
  refine lv_iadd hx hb dL_law_704 ?_
  refine lv_topi (fun x_5 ex_5 => ?_)
  obtain rfl : x_5 = 3 := ex_5.trans (by decide +kernel)
  refine va_sld hx hb hX hbl hbA hS (by unfold vp_in; decide +kernel) dL_law_705 ?_
  refine lv_topi (fun x_6 ex_6 => ?_)
  obtain rfl : v3 = x_6 := (ex_6.trans hv3).symm
  refine vp_callSi (va_Run.run (va_runV (As := [.int v1, .int v2, .int v3]) (rest := []) ⟨hx, hb, hml, hown, hts⟩ (c_X11_revoke l dC dI a cG cT ft TL hT v1 v2 v3) (cwV 3 hts gv_RL_66 rfl rfl rfl (by decide +kernel) ⟨Nat.le_of_ble_eq_true rfl, Nat.le_of_ble_eq_true rfl⟩) ⟨fun a U g mk q => by obtain ⟨q0, qP, qK⟩ := q; exact ⟨q0, qP, va_K.moved (u := U) (U := U.calling g mk a) (Vm.Alike.refl U.vm) qK⟩, va_recv hKX hPX (ci := 10) (q0 := 0) rfl rfl, fun U hU hW => ⟨rfl, by rw [hU]; exact hPX, va_K.moved hW.alike hKX⟩⟩ rfl rfl hl.1 rfl (lv_room (Nat.le_of_ble_eq_true rfl)) dL_law_706 ⟨Nat.le_of_ble_eq_true rfl, Nat.le_of_ble_eq_true rfl⟩)) (fun r_7 e_7 => ?_)
  refine lv_aload_n hx hb dL_law_709 rfl (lv_at hl 1 rfl) ?_
  refine lv_aload_n hx hb dL_law_710 rfl (lv_at hl 3 rfl) ?_
  refine lv_iload_n hx hb dL_law_711 rfl (lv_at hl 0 rfl) ?_
  refine lv_iconst (v := 1) hx hb dL_law_712 (by decide) ?_
  refine lv_iadd hx hb dL_law_713 ?_
  refine lv_topi (fun x_8 ex_8 => ?_)
  obtain rfl : x_8 = 1 := ex_8.trans (by decide +kernel)
  refine va_sld hx hb hX hbl hbA hS (by unfold vp_in; decide +kernel) dL_law_714 ?_
  refine lv_topi (fun x_9 ex_9 => ?_)
  obtain rfl : v1 = x_9 := (ex_9.trans hv1).symm
  refine lv_aload_n hx hb dL_law_715 rfl (lv_at hl 3 rfl) ?_
  refine lv_iload_n hx hb dL_law_716 rfl (lv_at hl 0 rfl) ?_
  refine lv_iconst (v := 2) hx hb dL_law_717 (by decide) ?_
  refine lv_iadd hx hb dL_law_718 ?_
  refine lv_topi (fun x_10 ex_10 => ?_)
  obtain rfl : x_10 = 2 := ex_10.trans (by decide +kernel)
  refine va_sld hx hb hX hbl hbA hS (by unfold vp_in; decide +kernel) dL_law_719 ?_
  refine lv_topi (fun x_11 ex_11 => ?_)
  obtain rfl : v2 = x_11 := (ex_11.trans hv2).symm
  refine lv_aload_n hx hb dL_law_720 rfl (lv_at hl 3 rfl) ?_
  refine lv_iload_n hx hb dL_law_721 rfl (lv_at hl 0 rfl) ?_
  refine lv_iconst (v := 3) hx hb dL_law_722 (by decide) ?_
  refine lv_iadd hx hb dL_law_723 ?_
  refine lv_topi (fun x_12 ex_12 => ?_)
  obtain rfl : x_12 = 3 := ex_12.trans (by decide +kernel)
  refine va_sld hx hb hX hbl hbA hS (by unfold vp_in; decide +kernel) dL_law_724 ?_
  refine lv_topi (fun x_13 ex_13 => ?_)
  obtain rfl : v3 = x_13 := (ex_13.trans hv3).symm
  refine vp_callSi (va_Run.run (va_runV (As := [.int v1, .int v2, .int v3]) (rest := [.int r_7]) ⟨hx, hb, hml, hown, hts⟩ (c_X12_revoke l dC dI b c1 c2 c3 c4 fk hF v1 v2 v3) (cwV 3 hts gv_RL_69 rfl rfl rfl (by decide +kernel) ⟨Nat.le_of_ble_eq_true rfl, Nat.le_of_ble_eq_true rfl⟩) ⟨fun a U g mk q => by obtain ⟨q0, qP, qK⟩ := q; exact ⟨q0, qP, va_K.moved (u := U) (U := U.calling g mk a) (Vm.Alike.refl U.vm) qK⟩, va_recv hKM hPM (ci := 11) (q0 := 0) rfl rfl, fun U hU hW => ⟨rfl, by rw [hU]; exact hPM, va_K.moved hW.alike hKM⟩⟩ rfl rfl hl.1 rfl (lv_room (Nat.le_of_ble_eq_true rfl)) dL_law_725 ⟨Nat.le_of_ble_eq_true rfl, Nat.le_of_ble_eq_true rfl⟩)) (fun r_14 e_14 => ?_)
  obtain rfl : r_7 = r_14 := e_7.trans e_14.symm
  refine lv_icmp_eq (tgt := 1419) hx hb dL_law_728 (by decide) (fun c_15 => ?_) (fun c_15 => absurd rfl c_15)
  refine W.widen (k := 1305) (n := 700005) (by omega) (by omega) ?_
  exact law_next C0 hS hl
set_option maxHeartbeats 4000000 in
set_option maxRecDepth 100000 in
theorem law_case_13 {p : Program} {l : Launch} {e : Env} {s : State} {m : MethodId} {below : List Frame} {meth : Method} {c : Code} {dC : Nat → ClassId} {dI : Nat → Nat → Nat} {sb : Nat} {xs : Nat → Int32} {a : Nat → Nat} {cG cT : ClassId} {ft : Nat → Option Nat} {TL : va_W} {b : Nat → Nat} {c1 c2 c3 c4 : ClassId} {fk : Nat → Int32} {H : Heap} {locs : List Loc} (C : lw_St p s m meth c dC dI sb xs a cG cT ft TL b c1 c2 c3 c4 fk H locs) {ls : Array Slot} (hl : lv_has ls 4 [(3, .int 0), (2, .ref (b 0)), (1, .ref (a 0)), (0, .ref sb)]) : W p l e room_1 s m #[Value.ref sb] below meth c H locs 1300 700000 (lw_Z below #[Value.ref sb] s) (F0 m 733 ls []) := by
  obtain ⟨C0, hT, hF, hKX, hKM, hPX, hPM, hDX, hDM, hap, hFX, hFM, hS, hCA0, hCA3, hCA5, hCA10⟩ := C
  obtain ⟨hx, hb, hr, hml, hown, hts, hX, hbl, hlocks, hgv⟩ := id C0
  have hbA : ¬ (fun q : Nat => s.heap.size ≤ q) sb := Nat.not_le.mpr hbl
  obtain ⟨v1, hv1⟩ : ∃ v, xs (1 : Int32).toNatClampNeg = v := ⟨_, rfl⟩
  obtain ⟨v2, hv2⟩ : ∃ v, xs (2 : Int32).toNatClampNeg = v := ⟨_, rfl⟩
  obtain ⟨v3, hv3⟩ : ∃ v, xs (3 : Int32).toNatClampNeg = v := ⟨_, rfl⟩
  obtain ⟨v4, hv4⟩ : ∃ v, xs (4 : Int32).toNatClampNeg = v := ⟨_, rfl⟩
  refine lv_aload_n hx hb dL_law_733 rfl (lv_at hl 2 rfl) ?_
  refine lv_aload_n hx hb dL_law_734 rfl (lv_at hl 3 rfl) ?_
  refine lv_iload_n hx hb dL_law_735 rfl (lv_at hl 0 rfl) ?_
  refine lv_iconst (v := 1) hx hb dL_law_736 (by decide) ?_
  refine lv_iadd hx hb dL_law_737 ?_
  refine lv_topi (fun x_1 ex_1 => ?_)
  obtain rfl : x_1 = 1 := ex_1.trans (by decide +kernel)
  refine va_sld hx hb hX hbl hbA hS (by unfold vp_in; decide +kernel) dL_law_738 ?_
  refine lv_topi (fun x_2 ex_2 => ?_)
  obtain rfl : v1 = x_2 := (ex_2.trans hv1).symm
  refine lv_aload_n hx hb dL_law_739 rfl (lv_at hl 3 rfl) ?_
  refine lv_iload_n hx hb dL_law_740 rfl (lv_at hl 0 rfl) ?_
  refine lv_iconst (v := 2) hx hb dL_law_741 (by decide) ?_
  refine lv_iadd hx hb dL_law_742 ?_
  refine lv_topi (fun x_3 ex_3 => ?_)
  obtain rfl : x_3 = 2 := ex_3.trans (by decide +kernel)
  refine va_sld hx hb hX hbl hbA hS (by unfold vp_in; decide +kernel) dL_law_743 ?_
  refine lv_topi (fun x_4 ex_4 => ?_)
  obtain rfl : v2 = x_4 := (ex_4.trans hv2).symm
  refine lv_aload_n hx hb dL_law_744 rfl (lv_at hl 3 rfl) ?_
  refine lv_iload_n hx hb dL_law_745 rfl (lv_at hl 0 rfl) ?_
  refine lv_iconst (v := 3) hx hb dL_law_746 (by decide) ?_
  refine lv_iadd hx hb dL_law_747 ?_
  refine lv_topi (fun x_5 ex_5 => ?_)
  obtain rfl : x_5 = 3 := ex_5.trans (by decide +kernel)
  refine va_sld hx hb hX hbl hbA hS (by unfold vp_in; decide +kernel) dL_law_748 ?_
  refine lv_topi (fun x_6 ex_6 => ?_)
  obtain rfl : v3 = x_6 := (ex_6.trans hv3).symm
  refine vp_callSi (va_Run.run (va_runV (As := [.int v1, .int v2, .int v3]) (rest := []) ⟨hx, hb, hml, hown, hts⟩ (c_X11_allowed l dC dI a cG cT ft TL hT v1 v2 v3) (cwV 3 hts gv_RL_70 rfl rfl rfl (by decide +kernel) ⟨Nat.le_of_ble_eq_true rfl, Nat.le_of_ble_eq_true rfl⟩) ⟨fun a U g mk q => by obtain ⟨q0, qP, qK⟩ := q; exact ⟨q0, qP, va_K.moved (u := U) (U := U.calling g mk a) (Vm.Alike.refl U.vm) qK⟩, va_recv hKX hPX (ci := 10) (q0 := 0) rfl rfl, fun U hU hW => ⟨rfl, by rw [hU]; exact hPX, va_K.moved hW.alike hKX⟩⟩ rfl rfl hl.1 rfl (lv_room (Nat.le_of_ble_eq_true rfl)) dL_law_749 ⟨Nat.le_of_ble_eq_true rfl, Nat.le_of_ble_eq_true rfl⟩)) (fun r_7 e_7 => ?_)
  refine lv_aload_n hx hb dL_law_752 rfl (lv_at hl 1 rfl) ?_
  refine lv_aload_n hx hb dL_law_753 rfl (lv_at hl 3 rfl) ?_
  refine lv_iload_n hx hb dL_law_754 rfl (lv_at hl 0 rfl) ?_
  refine lv_iconst (v := 1) hx hb dL_law_755 (by decide) ?_
  refine lv_iadd hx hb dL_law_756 ?_
  refine lv_topi (fun x_8 ex_8 => ?_)
  obtain rfl : x_8 = 1 := ex_8.trans (by decide +kernel)
  refine va_sld hx hb hX hbl hbA hS (by unfold vp_in; decide +kernel) dL_law_757 ?_
  refine lv_topi (fun x_9 ex_9 => ?_)
  obtain rfl : v1 = x_9 := (ex_9.trans hv1).symm
  refine lv_aload_n hx hb dL_law_758 rfl (lv_at hl 3 rfl) ?_
  refine lv_iload_n hx hb dL_law_759 rfl (lv_at hl 0 rfl) ?_
  refine lv_iconst (v := 2) hx hb dL_law_760 (by decide) ?_
  refine lv_iadd hx hb dL_law_761 ?_
  refine lv_topi (fun x_10 ex_10 => ?_)
  obtain rfl : x_10 = 2 := ex_10.trans (by decide +kernel)
  refine va_sld hx hb hX hbl hbA hS (by unfold vp_in; decide +kernel) dL_law_762 ?_
  refine lv_topi (fun x_11 ex_11 => ?_)
  obtain rfl : v2 = x_11 := (ex_11.trans hv2).symm
  refine lv_aload_n hx hb dL_law_763 rfl (lv_at hl 3 rfl) ?_
  refine lv_iload_n hx hb dL_law_764 rfl (lv_at hl 0 rfl) ?_
  refine lv_iconst (v := 3) hx hb dL_law_765 (by decide) ?_
  refine lv_iadd hx hb dL_law_766 ?_
  refine lv_topi (fun x_12 ex_12 => ?_)
  obtain rfl : x_12 = 3 := ex_12.trans (by decide +kernel)
  refine va_sld hx hb hX hbl hbA hS (by unfold vp_in; decide +kernel) dL_law_767 ?_
  refine lv_topi (fun x_13 ex_13 => ?_)
  obtain rfl : v3 = x_13 := (ex_13.trans hv3).symm
  refine vp_callSi (va_Run.run (va_runV (As := [.int v1, .int v2, .int v3]) (rest := [.int r_7]) ⟨hx, hb, hml, hown, hts⟩ (c_X12_allowed l dC dI b c1 c2 c3 c4 fk hF v1 v2 v3) (cwV 3 hts gv_RL_73 rfl rfl rfl (by decide +kernel) ⟨Nat.le_of_ble_eq_true rfl, Nat.le_of_ble_eq_true rfl⟩) ⟨fun a U g mk q => by obtain ⟨q0, qP, qK⟩ := q; exact ⟨q0, qP, va_K.moved (u := U) (U := U.calling g mk a) (Vm.Alike.refl U.vm) qK⟩, va_recv hKM hPM (ci := 11) (q0 := 0) rfl rfl, fun U hU hW => ⟨rfl, by rw [hU]; exact hPM, va_K.moved hW.alike hKM⟩⟩ rfl rfl hl.1 rfl (lv_room (Nat.le_of_ble_eq_true rfl)) dL_law_768 ⟨Nat.le_of_ble_eq_true rfl, Nat.le_of_ble_eq_true rfl⟩)) (fun r_14 e_14 => ?_)
  obtain rfl : r_7 = r_14 := e_7.trans e_14.symm
  refine lv_icmp_eq (tgt := 1419) hx hb dL_law_771 (by decide) (fun c_15 => ?_) (fun c_15 => absurd rfl c_15)
  refine W.widen (k := 1305) (n := 700005) (by omega) (by omega) ?_
  exact law_next C0 hS hl
set_option maxHeartbeats 4000000 in
set_option maxRecDepth 100000 in
theorem law_case_14 {p : Program} {l : Launch} {e : Env} {s : State} {m : MethodId} {below : List Frame} {meth : Method} {c : Code} {dC : Nat → ClassId} {dI : Nat → Nat → Nat} {sb : Nat} {xs : Nat → Int32} {a : Nat → Nat} {cG cT : ClassId} {ft : Nat → Option Nat} {TL : va_W} {b : Nat → Nat} {c1 c2 c3 c4 : ClassId} {fk : Nat → Int32} {H : Heap} {locs : List Loc} (C : lw_St p s m meth c dC dI sb xs a cG cT ft TL b c1 c2 c3 c4 fk H locs) {ls : Array Slot} (hl : lv_has ls 4 [(3, .int 0), (2, .ref (b 0)), (1, .ref (a 0)), (0, .ref sb)]) : W p l e room_1 s m #[Value.ref sb] below meth c H locs 1300 700000 (lw_Z below #[Value.ref sb] s) (F0 m 776 ls []) := by
  obtain ⟨C0, hT, hF, hKX, hKM, hPX, hPM, hDX, hDM, hap, hFX, hFM, hS, hCA0, hCA3, hCA5, hCA10⟩ := C
  obtain ⟨hx, hb, hr, hml, hown, hts, hX, hbl, hlocks, hgv⟩ := id C0
  have hbA : ¬ (fun q : Nat => s.heap.size ≤ q) sb := Nat.not_le.mpr hbl
  obtain ⟨v1, hv1⟩ : ∃ v, xs (1 : Int32).toNatClampNeg = v := ⟨_, rfl⟩
  obtain ⟨v2, hv2⟩ : ∃ v, xs (2 : Int32).toNatClampNeg = v := ⟨_, rfl⟩
  obtain ⟨v3, hv3⟩ : ∃ v, xs (3 : Int32).toNatClampNeg = v := ⟨_, rfl⟩
  obtain ⟨v4, hv4⟩ : ∃ v, xs (4 : Int32).toNatClampNeg = v := ⟨_, rfl⟩
  refine lv_aload_n hx hb dL_law_776 rfl (lv_at hl 2 rfl) ?_
  refine lv_aload_n hx hb dL_law_777 rfl (lv_at hl 3 rfl) ?_
  refine lv_iload_n hx hb dL_law_778 rfl (lv_at hl 0 rfl) ?_
  refine lv_iconst (v := 1) hx hb dL_law_779 (by decide) ?_
  refine lv_iadd hx hb dL_law_780 ?_
  refine lv_topi (fun x_1 ex_1 => ?_)
  obtain rfl : x_1 = 1 := ex_1.trans (by decide +kernel)
  refine va_sld hx hb hX hbl hbA hS (by unfold vp_in; decide +kernel) dL_law_781 ?_
  refine lv_topi (fun x_2 ex_2 => ?_)
  obtain rfl : v1 = x_2 := (ex_2.trans hv1).symm
  refine vp_callSi (va_Run.run (va_runV (As := [.int v1]) (rest := []) ⟨hx, hb, hml, hown, hts⟩ (c_X11_turn l dC dI a cG cT ft TL hT v1) (cwV 1 hts gv_RL_74 rfl rfl rfl (by decide +kernel) ⟨Nat.le_of_ble_eq_true rfl, Nat.le_of_ble_eq_true rfl⟩) ⟨fun a U g mk q => by obtain ⟨q0, qP, qK⟩ := q; exact ⟨q0, qP, va_K.moved (u := U) (U := U.calling g mk a) (Vm.Alike.refl U.vm) qK⟩, va_recv hKX hPX (ci := 10) (q0 := 0) rfl rfl, fun U hU hW => ⟨rfl, by rw [hU]; exact hPX, va_K.moved hW.alike hKX⟩⟩ rfl rfl hl.1 rfl (lv_room (Nat.le_of_ble_eq_true rfl)) dL_law_782 ⟨Nat.le_of_ble_eq_true rfl, Nat.le_of_ble_eq_true rfl⟩)) (fun r_3 e_3 => ?_)
  refine lv_aload_n hx hb dL_law_785 rfl (lv_at hl 1 rfl) ?_
  refine lv_aload_n hx hb dL_law_786 rfl (lv_at hl 3 rfl) ?_
  refine lv_iload_n hx hb dL_law_787 rfl (lv_at hl 0 rfl) ?_
  refine lv_iconst (v := 1) hx hb dL_law_788 (by decide) ?_
  refine lv_iadd hx hb dL_law_789 ?_
  refine lv_topi (fun x_4 ex_4 => ?_)
  obtain rfl : x_4 = 1 := ex_4.trans (by decide +kernel)
  refine va_sld hx hb hX hbl hbA hS (by unfold vp_in; decide +kernel) dL_law_790 ?_
  refine lv_topi (fun x_5 ex_5 => ?_)
  obtain rfl : v1 = x_5 := (ex_5.trans hv1).symm
  refine vp_callSi (va_Run.run (va_runV (As := [.int v1]) (rest := [.int r_3]) ⟨hx, hb, hml, hown, hts⟩ (c_X12_turn l dC dI b c1 c2 c3 c4 fk hF v1) (cwV 1 hts gv_RL_77 rfl rfl rfl (by decide +kernel) ⟨Nat.le_of_ble_eq_true rfl, Nat.le_of_ble_eq_true rfl⟩) ⟨fun a U g mk q => by obtain ⟨q0, qP, qK⟩ := q; exact ⟨q0, qP, va_K.moved (u := U) (U := U.calling g mk a) (Vm.Alike.refl U.vm) qK⟩, va_recv hKM hPM (ci := 11) (q0 := 0) rfl rfl, fun U hU hW => ⟨rfl, by rw [hU]; exact hPM, va_K.moved hW.alike hKM⟩⟩ rfl rfl hl.1 rfl (lv_room (Nat.le_of_ble_eq_true rfl)) dL_law_791 ⟨Nat.le_of_ble_eq_true rfl, Nat.le_of_ble_eq_true rfl⟩)) (fun r_6 e_6 => ?_)
  obtain rfl : r_3 = r_6 := e_3.trans e_6.symm
  refine lv_icmp_eq (tgt := 1419) hx hb dL_law_794 (by decide) (fun c_7 => ?_) (fun c_7 => absurd rfl c_7)
  refine W.widen (k := 1305) (n := 700005) (by omega) (by omega) ?_
  exact law_next C0 hS hl
set_option maxHeartbeats 4000000 in
set_option maxRecDepth 100000 in
theorem law_case_15 {p : Program} {l : Launch} {e : Env} {s : State} {m : MethodId} {below : List Frame} {meth : Method} {c : Code} {dC : Nat → ClassId} {dI : Nat → Nat → Nat} {sb : Nat} {xs : Nat → Int32} {a : Nat → Nat} {cG cT : ClassId} {ft : Nat → Option Nat} {TL : va_W} {b : Nat → Nat} {c1 c2 c3 c4 : ClassId} {fk : Nat → Int32} {H : Heap} {locs : List Loc} (C : lw_St p s m meth c dC dI sb xs a cG cT ft TL b c1 c2 c3 c4 fk H locs) {ls : Array Slot} (hl : lv_has ls 4 [(3, .int 0), (2, .ref (b 0)), (1, .ref (a 0)), (0, .ref sb)]) : W p l e room_1 s m #[Value.ref sb] below meth c H locs 1300 700000 (lw_Z below #[Value.ref sb] s) (F0 m 799 ls []) := by
  obtain ⟨C0, hT, hF, hKX, hKM, hPX, hPM, hDX, hDM, hap, hFX, hFM, hS, hCA0, hCA3, hCA5, hCA10⟩ := C
  obtain ⟨hx, hb, hr, hml, hown, hts, hX, hbl, hlocks, hgv⟩ := id C0
  have hbA : ¬ (fun q : Nat => s.heap.size ≤ q) sb := Nat.not_le.mpr hbl
  obtain ⟨v1, hv1⟩ : ∃ v, xs (1 : Int32).toNatClampNeg = v := ⟨_, rfl⟩
  obtain ⟨v2, hv2⟩ : ∃ v, xs (2 : Int32).toNatClampNeg = v := ⟨_, rfl⟩
  obtain ⟨v3, hv3⟩ : ∃ v, xs (3 : Int32).toNatClampNeg = v := ⟨_, rfl⟩
  obtain ⟨v4, hv4⟩ : ∃ v, xs (4 : Int32).toNatClampNeg = v := ⟨_, rfl⟩
  refine lv_aload_n hx hb dL_law_799 rfl (lv_at hl 2 rfl) ?_
  refine lv_aload_n hx hb dL_law_800 rfl (lv_at hl 3 rfl) ?_
  refine lv_iload_n hx hb dL_law_801 rfl (lv_at hl 0 rfl) ?_
  refine lv_iconst (v := 1) hx hb dL_law_802 (by decide) ?_
  refine lv_iadd hx hb dL_law_803 ?_
  refine lv_topi (fun x_1 ex_1 => ?_)
  obtain rfl : x_1 = 1 := ex_1.trans (by decide +kernel)
  refine va_sld hx hb hX hbl hbA hS (by unfold vp_in; decide +kernel) dL_law_804 ?_
  refine lv_topi (fun x_2 ex_2 => ?_)
  obtain rfl : v1 = x_2 := (ex_2.trans hv1).symm
  refine lv_aload_n hx hb dL_law_805 rfl (lv_at hl 3 rfl) ?_
  refine lv_iload_n hx hb dL_law_806 rfl (lv_at hl 0 rfl) ?_
  refine lv_iconst (v := 2) hx hb dL_law_807 (by decide) ?_
  refine lv_iadd hx hb dL_law_808 ?_
  refine lv_topi (fun x_3 ex_3 => ?_)
  obtain rfl : x_3 = 2 := ex_3.trans (by decide +kernel)
  refine va_sld hx hb hX hbl hbA hS (by unfold vp_in; decide +kernel) dL_law_809 ?_
  refine lv_topi (fun x_4 ex_4 => ?_)
  obtain rfl : v2 = x_4 := (ex_4.trans hv2).symm
  refine vp_callSi (va_Run.run (va_runV (As := [.int v1, .int v2]) (rest := []) ⟨hx, hb, hml, hown, hts⟩ (c_X11_trick l dC dI a cG cT ft TL hT v1 v2) (cwV 2 hts gv_RL_78 rfl rfl rfl (by decide +kernel) ⟨Nat.le_of_ble_eq_true rfl, Nat.le_of_ble_eq_true rfl⟩) ⟨fun a U g mk q => by obtain ⟨q0, qP, qK⟩ := q; exact ⟨q0, qP, va_K.moved (u := U) (U := U.calling g mk a) (Vm.Alike.refl U.vm) qK⟩, va_recv hKX hPX (ci := 10) (q0 := 0) rfl rfl, fun U hU hW => ⟨rfl, by rw [hU]; exact hPX, va_K.moved hW.alike hKX⟩⟩ rfl rfl hl.1 rfl (lv_room (Nat.le_of_ble_eq_true rfl)) dL_law_810 ⟨Nat.le_of_ble_eq_true rfl, Nat.le_of_ble_eq_true rfl⟩)) (fun r_5 e_5 => ?_)
  refine lv_aload_n hx hb dL_law_813 rfl (lv_at hl 1 rfl) ?_
  refine lv_aload_n hx hb dL_law_814 rfl (lv_at hl 3 rfl) ?_
  refine lv_iload_n hx hb dL_law_815 rfl (lv_at hl 0 rfl) ?_
  refine lv_iconst (v := 1) hx hb dL_law_816 (by decide) ?_
  refine lv_iadd hx hb dL_law_817 ?_
  refine lv_topi (fun x_6 ex_6 => ?_)
  obtain rfl : x_6 = 1 := ex_6.trans (by decide +kernel)
  refine va_sld hx hb hX hbl hbA hS (by unfold vp_in; decide +kernel) dL_law_818 ?_
  refine lv_topi (fun x_7 ex_7 => ?_)
  obtain rfl : v1 = x_7 := (ex_7.trans hv1).symm
  refine lv_aload_n hx hb dL_law_819 rfl (lv_at hl 3 rfl) ?_
  refine lv_iload_n hx hb dL_law_820 rfl (lv_at hl 0 rfl) ?_
  refine lv_iconst (v := 2) hx hb dL_law_821 (by decide) ?_
  refine lv_iadd hx hb dL_law_822 ?_
  refine lv_topi (fun x_8 ex_8 => ?_)
  obtain rfl : x_8 = 2 := ex_8.trans (by decide +kernel)
  refine va_sld hx hb hX hbl hbA hS (by unfold vp_in; decide +kernel) dL_law_823 ?_
  refine lv_topi (fun x_9 ex_9 => ?_)
  obtain rfl : v2 = x_9 := (ex_9.trans hv2).symm
  refine vp_callSi (va_Run.run (va_runV (As := [.int v1, .int v2]) (rest := [.int r_5]) ⟨hx, hb, hml, hown, hts⟩ (c_X12_trick l dC dI b c1 c2 c3 c4 fk hF v1 v2) (cwV 2 hts gv_RL_81 rfl rfl rfl (by decide +kernel) ⟨Nat.le_of_ble_eq_true rfl, Nat.le_of_ble_eq_true rfl⟩) ⟨fun a U g mk q => by obtain ⟨q0, qP, qK⟩ := q; exact ⟨q0, qP, va_K.moved (u := U) (U := U.calling g mk a) (Vm.Alike.refl U.vm) qK⟩, va_recv hKM hPM (ci := 11) (q0 := 0) rfl rfl, fun U hU hW => ⟨rfl, by rw [hU]; exact hPM, va_K.moved hW.alike hKM⟩⟩ rfl rfl hl.1 rfl (lv_room (Nat.le_of_ble_eq_true rfl)) dL_law_824 ⟨Nat.le_of_ble_eq_true rfl, Nat.le_of_ble_eq_true rfl⟩)) (fun r_10 e_10 => ?_)
  obtain rfl : r_5 = r_10 := e_5.trans e_10.symm
  refine lv_icmp_eq (tgt := 1419) hx hb dL_law_827 (by decide) (fun c_11 => ?_) (fun c_11 => absurd rfl c_11)
  refine W.widen (k := 1305) (n := 700005) (by omega) (by omega) ?_
  exact law_next C0 hS hl
set_option maxHeartbeats 4000000 in
set_option maxRecDepth 100000 in
theorem law_case_16 {p : Program} {l : Launch} {e : Env} {s : State} {m : MethodId} {below : List Frame} {meth : Method} {c : Code} {dC : Nat → ClassId} {dI : Nat → Nat → Nat} {sb : Nat} {xs : Nat → Int32} {a : Nat → Nat} {cG cT : ClassId} {ft : Nat → Option Nat} {TL : va_W} {b : Nat → Nat} {c1 c2 c3 c4 : ClassId} {fk : Nat → Int32} {H : Heap} {locs : List Loc} (C : lw_St p s m meth c dC dI sb xs a cG cT ft TL b c1 c2 c3 c4 fk H locs) {ls : Array Slot} (hl : lv_has ls 4 [(3, .int 0), (2, .ref (b 0)), (1, .ref (a 0)), (0, .ref sb)]) : W p l e room_1 s m #[Value.ref sb] below meth c H locs 1300 700000 (lw_Z below #[Value.ref sb] s) (F0 m 832 ls []) := by
  obtain ⟨C0, hT, hF, hKX, hKM, hPX, hPM, hDX, hDM, hap, hFX, hFM, hS, hCA0, hCA3, hCA5, hCA10⟩ := C
  obtain ⟨hx, hb, hr, hml, hown, hts, hX, hbl, hlocks, hgv⟩ := id C0
  have hbA : ¬ (fun q : Nat => s.heap.size ≤ q) sb := Nat.not_le.mpr hbl
  obtain ⟨v1, hv1⟩ : ∃ v, xs (1 : Int32).toNatClampNeg = v := ⟨_, rfl⟩
  obtain ⟨v2, hv2⟩ : ∃ v, xs (2 : Int32).toNatClampNeg = v := ⟨_, rfl⟩
  obtain ⟨v3, hv3⟩ : ∃ v, xs (3 : Int32).toNatClampNeg = v := ⟨_, rfl⟩
  obtain ⟨v4, hv4⟩ : ∃ v, xs (4 : Int32).toNatClampNeg = v := ⟨_, rfl⟩
  refine lv_aload_n hx hb dL_law_832 rfl (lv_at hl 2 rfl) ?_
  refine lv_aload_n hx hb dL_law_833 rfl (lv_at hl 3 rfl) ?_
  refine lv_iload_n hx hb dL_law_834 rfl (lv_at hl 0 rfl) ?_
  refine lv_iconst (v := 1) hx hb dL_law_835 (by decide) ?_
  refine lv_iadd hx hb dL_law_836 ?_
  refine lv_topi (fun x_1 ex_1 => ?_)
  obtain rfl : x_1 = 1 := ex_1.trans (by decide +kernel)
  refine va_sld hx hb hX hbl hbA hS (by unfold vp_in; decide +kernel) dL_law_837 ?_
  refine lv_topi (fun x_2 ex_2 => ?_)
  obtain rfl : v1 = x_2 := (ex_2.trans hv1).symm
  refine lv_aload_n hx hb dL_law_838 rfl (lv_at hl 3 rfl) ?_
  refine lv_iload_n hx hb dL_law_839 rfl (lv_at hl 0 rfl) ?_
  refine lv_iconst (v := 2) hx hb dL_law_840 (by decide) ?_
  refine lv_iadd hx hb dL_law_841 ?_
  refine lv_topi (fun x_3 ex_3 => ?_)
  obtain rfl : x_3 = 2 := ex_3.trans (by decide +kernel)
  refine va_sld hx hb hX hbl hbA hS (by unfold vp_in; decide +kernel) dL_law_842 ?_
  refine lv_topi (fun x_4 ex_4 => ?_)
  obtain rfl : v2 = x_4 := (ex_4.trans hv2).symm
  refine lv_aload_n hx hb dL_law_843 rfl (lv_at hl 3 rfl) ?_
  refine lv_iload_n hx hb dL_law_844 rfl (lv_at hl 0 rfl) ?_
  refine lv_iconst (v := 3) hx hb dL_law_845 (by decide) ?_
  refine lv_iadd hx hb dL_law_846 ?_
  refine lv_topi (fun x_5 ex_5 => ?_)
  obtain rfl : x_5 = 3 := ex_5.trans (by decide +kernel)
  refine va_sld hx hb hX hbl hbA hS (by unfold vp_in; decide +kernel) dL_law_847 ?_
  refine lv_topi (fun x_6 ex_6 => ?_)
  obtain rfl : v3 = x_6 := (ex_6.trans hv3).symm
  refine vp_callSi (va_Run.run (va_runV (As := [.int v1, .int v2, .int v3]) (rest := []) ⟨hx, hb, hml, hown, hts⟩ (c_X11_hand l dC dI a cG cT ft TL hT v1 v2 v3) (cwV 3 hts gv_RL_82 rfl rfl rfl (by decide +kernel) ⟨Nat.le_of_ble_eq_true rfl, Nat.le_of_ble_eq_true rfl⟩) ⟨fun a U g mk q => by obtain ⟨q0, qP, qK⟩ := q; exact ⟨q0, qP, va_K.moved (u := U) (U := U.calling g mk a) (Vm.Alike.refl U.vm) qK⟩, va_recv hKX hPX (ci := 10) (q0 := 0) rfl rfl, fun U hU hW => ⟨rfl, by rw [hU]; exact hPX, va_K.moved hW.alike hKX⟩⟩ rfl rfl hl.1 rfl (lv_room (Nat.le_of_ble_eq_true rfl)) dL_law_848 ⟨Nat.le_of_ble_eq_true rfl, Nat.le_of_ble_eq_true rfl⟩)) (fun r_7 e_7 => ?_)
  refine lv_aload_n hx hb dL_law_851 rfl (lv_at hl 1 rfl) ?_
  refine lv_aload_n hx hb dL_law_852 rfl (lv_at hl 3 rfl) ?_
  refine lv_iload_n hx hb dL_law_853 rfl (lv_at hl 0 rfl) ?_
  refine lv_iconst (v := 1) hx hb dL_law_854 (by decide) ?_
  refine lv_iadd hx hb dL_law_855 ?_
  refine lv_topi (fun x_8 ex_8 => ?_)
  obtain rfl : x_8 = 1 := ex_8.trans (by decide +kernel)
  refine va_sld hx hb hX hbl hbA hS (by unfold vp_in; decide +kernel) dL_law_856 ?_
  refine lv_topi (fun x_9 ex_9 => ?_)
  obtain rfl : v1 = x_9 := (ex_9.trans hv1).symm
  refine lv_aload_n hx hb dL_law_857 rfl (lv_at hl 3 rfl) ?_
  refine lv_iload_n hx hb dL_law_858 rfl (lv_at hl 0 rfl) ?_
  refine lv_iconst (v := 2) hx hb dL_law_859 (by decide) ?_
  refine lv_iadd hx hb dL_law_860 ?_
  refine lv_topi (fun x_10 ex_10 => ?_)
  obtain rfl : x_10 = 2 := ex_10.trans (by decide +kernel)
  refine va_sld hx hb hX hbl hbA hS (by unfold vp_in; decide +kernel) dL_law_861 ?_
  refine lv_topi (fun x_11 ex_11 => ?_)
  obtain rfl : v2 = x_11 := (ex_11.trans hv2).symm
  refine lv_aload_n hx hb dL_law_862 rfl (lv_at hl 3 rfl) ?_
  refine lv_iload_n hx hb dL_law_863 rfl (lv_at hl 0 rfl) ?_
  refine lv_iconst (v := 3) hx hb dL_law_864 (by decide) ?_
  refine lv_iadd hx hb dL_law_865 ?_
  refine lv_topi (fun x_12 ex_12 => ?_)
  obtain rfl : x_12 = 3 := ex_12.trans (by decide +kernel)
  refine va_sld hx hb hX hbl hbA hS (by unfold vp_in; decide +kernel) dL_law_866 ?_
  refine lv_topi (fun x_13 ex_13 => ?_)
  obtain rfl : v3 = x_13 := (ex_13.trans hv3).symm
  refine vp_callSi (va_Run.run (va_runV (As := [.int v1, .int v2, .int v3]) (rest := [.int r_7]) ⟨hx, hb, hml, hown, hts⟩ (c_X12_hand l dC dI b c1 c2 c3 c4 fk hF v1 v2 v3) (cwV 3 hts gv_RL_85 rfl rfl rfl (by decide +kernel) ⟨Nat.le_of_ble_eq_true rfl, Nat.le_of_ble_eq_true rfl⟩) ⟨fun a U g mk q => by obtain ⟨q0, qP, qK⟩ := q; exact ⟨q0, qP, va_K.moved (u := U) (U := U.calling g mk a) (Vm.Alike.refl U.vm) qK⟩, va_recv hKM hPM (ci := 11) (q0 := 0) rfl rfl, fun U hU hW => ⟨rfl, by rw [hU]; exact hPM, va_K.moved hW.alike hKM⟩⟩ rfl rfl hl.1 rfl (lv_room (Nat.le_of_ble_eq_true rfl)) dL_law_867 ⟨Nat.le_of_ble_eq_true rfl, Nat.le_of_ble_eq_true rfl⟩)) (fun r_14 e_14 => ?_)
  obtain rfl : r_7 = r_14 := e_7.trans e_14.symm
  refine lv_icmp_eq (tgt := 1419) hx hb dL_law_870 (by decide) (fun c_15 => ?_) (fun c_15 => absurd rfl c_15)
  refine W.widen (k := 1305) (n := 700005) (by omega) (by omega) ?_
  exact law_next C0 hS hl
set_option maxHeartbeats 4000000 in
set_option maxRecDepth 100000 in
theorem law_case_17 {p : Program} {l : Launch} {e : Env} {s : State} {m : MethodId} {below : List Frame} {meth : Method} {c : Code} {dC : Nat → ClassId} {dI : Nat → Nat → Nat} {sb : Nat} {xs : Nat → Int32} {a : Nat → Nat} {cG cT : ClassId} {ft : Nat → Option Nat} {TL : va_W} {b : Nat → Nat} {c1 c2 c3 c4 : ClassId} {fk : Nat → Int32} {H : Heap} {locs : List Loc} (C : lw_St p s m meth c dC dI sb xs a cG cT ft TL b c1 c2 c3 c4 fk H locs) {ls : Array Slot} (hl : lv_has ls 4 [(3, .int 0), (2, .ref (b 0)), (1, .ref (a 0)), (0, .ref sb)]) : W p l e room_1 s m #[Value.ref sb] below meth c H locs 1300 700000 (lw_Z below #[Value.ref sb] s) (F0 m 875 ls []) := by
  obtain ⟨C0, hT, hF, hKX, hKM, hPX, hPM, hDX, hDM, hap, hFX, hFM, hS, hCA0, hCA3, hCA5, hCA10⟩ := C
  obtain ⟨hx, hb, hr, hml, hown, hts, hX, hbl, hlocks, hgv⟩ := id C0
  have hbA : ¬ (fun q : Nat => s.heap.size ≤ q) sb := Nat.not_le.mpr hbl
  obtain ⟨v1, hv1⟩ : ∃ v, xs (1 : Int32).toNatClampNeg = v := ⟨_, rfl⟩
  obtain ⟨v2, hv2⟩ : ∃ v, xs (2 : Int32).toNatClampNeg = v := ⟨_, rfl⟩
  obtain ⟨v3, hv3⟩ : ∃ v, xs (3 : Int32).toNatClampNeg = v := ⟨_, rfl⟩
  obtain ⟨v4, hv4⟩ : ∃ v, xs (4 : Int32).toNatClampNeg = v := ⟨_, rfl⟩
  refine lv_aload_n hx hb dL_law_875 rfl (lv_at hl 2 rfl) ?_
  refine lv_aload_n hx hb dL_law_876 rfl (lv_at hl 3 rfl) ?_
  refine lv_iload_n hx hb dL_law_877 rfl (lv_at hl 0 rfl) ?_
  refine lv_iconst (v := 1) hx hb dL_law_878 (by decide) ?_
  refine lv_iadd hx hb dL_law_879 ?_
  refine lv_topi (fun x_1 ex_1 => ?_)
  obtain rfl : x_1 = 1 := ex_1.trans (by decide +kernel)
  refine va_sld hx hb hX hbl hbA hS (by unfold vp_in; decide +kernel) dL_law_880 ?_
  refine lv_topi (fun x_2 ex_2 => ?_)
  obtain rfl : v1 = x_2 := (ex_2.trans hv1).symm
  refine lv_aload_n hx hb dL_law_881 rfl (lv_at hl 3 rfl) ?_
  refine lv_iload_n hx hb dL_law_882 rfl (lv_at hl 0 rfl) ?_
  refine lv_iconst (v := 2) hx hb dL_law_883 (by decide) ?_
  refine lv_iadd hx hb dL_law_884 ?_
  refine lv_topi (fun x_3 ex_3 => ?_)
  obtain rfl : x_3 = 2 := ex_3.trans (by decide +kernel)
  refine va_sld hx hb hX hbl hbA hS (by unfold vp_in; decide +kernel) dL_law_885 ?_
  refine lv_topi (fun x_4 ex_4 => ?_)
  obtain rfl : v2 = x_4 := (ex_4.trans hv2).symm
  refine vp_callSi (va_Run.run (va_runV (As := [.int v1, .int v2]) (rest := []) ⟨hx, hb, hml, hown, hts⟩ (c_X11_left l dC dI a cG cT ft TL hT v1 v2) (cwV 2 hts gv_RL_86 rfl rfl rfl (by decide +kernel) ⟨Nat.le_of_ble_eq_true rfl, Nat.le_of_ble_eq_true rfl⟩) ⟨fun a U g mk q => by obtain ⟨q0, qP, qK⟩ := q; exact ⟨q0, qP, va_K.moved (u := U) (U := U.calling g mk a) (Vm.Alike.refl U.vm) qK⟩, va_recv hKX hPX (ci := 10) (q0 := 0) rfl rfl, fun U hU hW => ⟨rfl, by rw [hU]; exact hPX, va_K.moved hW.alike hKX⟩⟩ rfl rfl hl.1 rfl (lv_room (Nat.le_of_ble_eq_true rfl)) dL_law_886 ⟨Nat.le_of_ble_eq_true rfl, Nat.le_of_ble_eq_true rfl⟩)) (fun r_5 e_5 => ?_)
  refine lv_aload_n hx hb dL_law_889 rfl (lv_at hl 1 rfl) ?_
  refine lv_aload_n hx hb dL_law_890 rfl (lv_at hl 3 rfl) ?_
  refine lv_iload_n hx hb dL_law_891 rfl (lv_at hl 0 rfl) ?_
  refine lv_iconst (v := 1) hx hb dL_law_892 (by decide) ?_
  refine lv_iadd hx hb dL_law_893 ?_
  refine lv_topi (fun x_6 ex_6 => ?_)
  obtain rfl : x_6 = 1 := ex_6.trans (by decide +kernel)
  refine va_sld hx hb hX hbl hbA hS (by unfold vp_in; decide +kernel) dL_law_894 ?_
  refine lv_topi (fun x_7 ex_7 => ?_)
  obtain rfl : v1 = x_7 := (ex_7.trans hv1).symm
  refine lv_aload_n hx hb dL_law_895 rfl (lv_at hl 3 rfl) ?_
  refine lv_iload_n hx hb dL_law_896 rfl (lv_at hl 0 rfl) ?_
  refine lv_iconst (v := 2) hx hb dL_law_897 (by decide) ?_
  refine lv_iadd hx hb dL_law_898 ?_
  refine lv_topi (fun x_8 ex_8 => ?_)
  obtain rfl : x_8 = 2 := ex_8.trans (by decide +kernel)
  refine va_sld hx hb hX hbl hbA hS (by unfold vp_in; decide +kernel) dL_law_899 ?_
  refine lv_topi (fun x_9 ex_9 => ?_)
  obtain rfl : v2 = x_9 := (ex_9.trans hv2).symm
  refine vp_callSi (va_Run.run (va_runV (As := [.int v1, .int v2]) (rest := [.int r_5]) ⟨hx, hb, hml, hown, hts⟩ (c_X12_left l dC dI b c1 c2 c3 c4 fk hF v1 v2) (cwV 2 hts gv_RL_89 rfl rfl rfl (by decide +kernel) ⟨Nat.le_of_ble_eq_true rfl, Nat.le_of_ble_eq_true rfl⟩) ⟨fun a U g mk q => by obtain ⟨q0, qP, qK⟩ := q; exact ⟨q0, qP, va_K.moved (u := U) (U := U.calling g mk a) (Vm.Alike.refl U.vm) qK⟩, va_recv hKM hPM (ci := 11) (q0 := 0) rfl rfl, fun U hU hW => ⟨rfl, by rw [hU]; exact hPM, va_K.moved hW.alike hKM⟩⟩ rfl rfl hl.1 rfl (lv_room (Nat.le_of_ble_eq_true rfl)) dL_law_900 ⟨Nat.le_of_ble_eq_true rfl, Nat.le_of_ble_eq_true rfl⟩)) (fun r_10 e_10 => ?_)
  obtain rfl : r_5 = r_10 := e_5.trans e_10.symm
  refine lv_icmp_eq (tgt := 1419) hx hb dL_law_903 (by decide) (fun c_11 => ?_) (fun c_11 => absurd rfl c_11)
  refine W.widen (k := 1305) (n := 700005) (by omega) (by omega) ?_
  exact law_next C0 hS hl
