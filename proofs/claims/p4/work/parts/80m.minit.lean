theorem mc_X12_init : zmC yX12_init cX12_init 2 0 := ⟨⟨zt_t1 8 rfl rfl, zt_t5 53 rfl rfl, by decide, by decide, by decide +kernel⟩, zt_t5 52 rfl rfl, rfl⟩
set_option maxHeartbeats 4000000 in
set_option maxRecDepth 100000 in
theorem c_X12_init (l : Launch) (D : va_G) (h0 sz : Nat) : Met l yX12_init (zc yX12_init cX12_init 2 none) (rmc 1 20 572512) (va_Pc [.ref h0] (cP D h0 sz (.inr (11, [.null, .null, .null, .null, .null, .null, .int 0, .int 0, .null, .int 0, .null, .int 0, .int 0, .null, .int 0, .null, .int 0, .int 0, .null, .null, .int 0, .null, .null, .int 0, .int 0, .int 0, .null, .int 0, .int 0, .null, .null, .null, .null, .null, .int 0, .int 0])))) (va_Qv (fun u : zK => mK u ∧ zat u h0 11 0) (fun u t => va_P D vwCl (zW u (mV u mf0 mA0)) t.heap ∧ zAr u t ∧ ∀ a ∈ zl u, va_A [(h0, .inr (11, [.null, .null, .null, .null, .null, .null, .int 0, .int 0, .null, .int 0, .null, .int 0, .int 0, .null, .int 0, .null, .int 0, .int 0, .null, .null, .int 0, .null, .null, .int 0, .int 0, .int 0, .null, .int 0, .int 0, .null, .null, .null, .null, .null, .int 0, .int 0]))] sz a) (va_A [(h0, .inr (11, [.null, .null, .null, .null, .null, .null, .int 0, .int 0, .null, .int 0, .null, .int 0, .int 0, .null, .int 0, .null, .int 0, .int 0, .null, .null, .int 0, .null, .null, .int 0, .int 0, .int 0, .null, .int 0, .int 0, .null, .null, .null, .null, .null, .int 0, .int 0]))] sz)) 20 572512 (va_A [(h0, .inr (11, [.null, .null, .null, .null, .null, .null, .int 0, .int 0, .null, .int 0, .null, .int 0, .int 0, .null, .int 0, .null, .int 0, .int 0, .null, .null, .int 0, .null, .null, .int 0, .int 0, .int 0, .null, .int 0, .int 0, .null, .null, .null, .null, .null, .int 0, .int 0]))] sz) := by
  refine cin (by decide) (Nat.le_of_ble_eq_true rfl) ?_
  intro p e s m args below meth c ls A hsz hAe C hr hlocks hnm hK hE hP hD hA hS hl
  subst hsz
  have C : CallFix p m c cX12_init 2 s args zw RX12 := C
  obtain ⟨hx, hb, hml, hown, hts⟩ := id C
  have hin : meth.name = "<init>" := hnm
  obtain ⟨K, V, hC, hP, hD, hAr, hm⟩ : ∃ (K : zK) (V : zV), zC K V ∧ va_P D vwCl ([(h0, .inr (11, [.null, .null, .null, .null, .null, .null, .int 0, .int 0, .null, .int 0, .null, .int 0, .int 0, .null, .int 0, .null, .int 0, .int 0, .null, .null, .int 0, .null, .null, .int 0, .int 0, .int 0, .null, .int 0, .int 0, .null, .null, .null, .null, .null, .int 0, .int 0]))] ++ zW K V) s.heap ∧ va_D A ([(h0, .inr (11, [.null, .null, .null, .null, .null, .null, .int 0, .int 0, .null, .int 0, .null, .int 0, .int 0, .null, .int 0, .null, .int 0, .int 0, .null, .null, .int 0, .null, .null, .int 0, .int 0, .int 0, .null, .int 0, .int 0, .null, .null, .null, .null, .null, .int 0, .int 0]))] ++ zW K V) ∧ zAr K s ∧ mZ mA0 [] K V := ⟨kE, vE, kE_C, hP, hD, kE_Ar s, mZ.nil⟩
  have hz : zats K [] := zats.nil
  have hl : lv_has ls 2 [(0, .ref h0)] := hl
  refine lv_aload_n hx hb dX12_init_0 rfl (lv_at hl 0 rfl) ?_
  refine W.objInit hx hb hown (hts (.methodLink RX12 1 objectInit) (zt_t5 54 rfl rfl)) (hts (.instanceMethod objectInit) (zt_t1 23 rfl rfl)) (hts (.code objectInit ⟨#[0xb1]⟩ 1 none) (zt_t1 24 rfl rfl)) rfl (by rw [hml]; exact hl.1) rfl dX12_init_1 (Nat.le_of_ble_eq_true rfl) (Nat.le_of_ble_eq_true rfl) ?_
  refine W.eq (g2 := F0 m 4 ls []) rfl ?_
  refine lv_aload_n hx hb dX12_init_4 rfl (lv_at hl 0 rfl) ?_
  refine lv_ldc (v := 47730) hx hb hown (hts (.constant RX12 7 47730) (zt_t5 55 rfl rfl)) dX12_init_5 ?_
  refine va_newa (atype := .int) (a0 := (47730, .inl (fun _ => 0))) (N' := 47730) (ty := .int) hx hb (hts (.arrayClass .int) (zt_t1 58 rfl rfl)) rfl hK hP hD hS hA (fun _ => rfl) (by decide +kernel) (by decide +kernel) (by decide +kernel) (Nat.le_of_ble_eq_true rfl) (Nat.le_of_ble_eq_true rfl) dX12_init_7 (fun q_1 cA_1 H hK hP hD hS => ?_)
  have hA1 := hK.2 0 _ rfl
  have hK := hK.sub (tys' := []) [] rfl
  obtain ⟨K, V, hC, hP, hD, hAr, hle, hq, hm⟩ := cnewM (X := [(h0, .inr (11, [.null, .null, .null, .null, .null, .null, .int 0, .int 0, .null, .int 0, .null, .int 0, .int 0, .null, .int 0, .null, .int 0, .int 0, .null, .null, .int 0, .null, .null, .int 0, .int 0, .int 0, .null, .int 0, .int 0, .null, .null, .null, .null, .null, .int 0, .int 0]))]) (k := 40) hC hm (by decide) (by decide) rfl (by decide) rfl hP hD hAr hA1
  have hz := hz.add hle hq
  clear hle hq
  refine W.widen (k := 1) (n := 47730) (by omega) (by omega) ?_
  refine va_putF (D := D) (ci := 11) (v := .ref q_1) (ty := .array .int) (C := RX12) (T := TX12) (N := 36) hx hb hts in_11 tyX12 tyX12_ok nmX12 hown hK hP hD hS 0 rfl rfl 0 (by decide) (hts (.fieldLink RX12 8 "CardTablesModel" "cells" "[I") (zt_t5 57 rfl rfl)) (fun _ h9 => h9) rfl hin rfl (by decide +kernel) rfl rfl (Nat.le_of_ble_eq_true rfl) dX12_init_9 (fun H locs hP hD hS => ?_)
  have hP : va_P D vwCl ([(h0, .inr (11, [.ref q_1, .null, .null, .null, .null, .null, .int 0, .int 0, .null, .int 0, .null, .int 0, .int 0, .null, .int 0, .null, .int 0, .int 0, .null, .null, .int 0, .null, .null, .int 0, .int 0, .int 0, .null, .int 0, .int 0, .null, .null, .null, .null, .null, .int 0, .int 0]))] ++ zW K V) H := hP
  have hD : va_D A ([(h0, .inr (11, [.ref q_1, .null, .null, .null, .null, .null, .int 0, .int 0, .null, .int 0, .null, .int 0, .int 0, .null, .int 0, .null, .int 0, .int 0, .null, .null, .int 0, .null, .null, .int 0, .int 0, .int 0, .null, .int 0, .int 0, .null, .null, .null, .null, .null, .int 0, .int 0]))] ++ zW K V) := hD
  refine lv_aload_n hx hb dX12_init_12 rfl (lv_at hl 0 rfl) ?_
  refine lv_iconst (v := 4) hx hb dX12_init_13 (by decide) ?_
  refine va_newa (atype := .boolean) (a0 := (4, .inl (fun _ => 0))) (N' := 4) (ty := .boolean) hx hb (hts (.arrayClass .boolean) (zt_t1 59 rfl rfl)) rfl hK hP hD hS hA (fun _ => rfl) (by decide +kernel) (by decide +kernel) (by decide +kernel) (Nat.le_of_ble_eq_true rfl) (Nat.le_of_ble_eq_true rfl) dX12_init_14 (fun q_2 cA_2 H hK hP hD hS => ?_)
  have hA1 := hK.2 0 _ rfl
  have hK := hK.sub (tys' := []) [] rfl
  obtain ⟨K, V, hC, hP, hD, hAr, hle, hq, hm⟩ := cnewM (X := [(h0, .inr (11, [.ref q_1, .null, .null, .null, .null, .null, .int 0, .int 0, .null, .int 0, .null, .int 0, .int 0, .null, .int 0, .null, .int 0, .int 0, .null, .null, .int 0, .null, .null, .int 0, .int 0, .int 0, .null, .int 0, .int 0, .null, .null, .null, .null, .null, .int 0, .int 0]))]) (k := 41) hC hm (by decide) (by decide) rfl (by decide) rfl hP hD hAr hA1
  have hz := hz.add hle hq
  clear hle hq
  refine W.widen (k := 2) (n := 47734) (by omega) (by omega) ?_
  refine va_putF (D := D) (ci := 11) (v := .ref q_2) (ty := .array .boolean) (C := RX12) (T := TX12) (N := 36) hx hb hts in_11 tyX12 tyX12_ok nmX12 hown hK hP hD hS 0 rfl rfl 1 (by decide) (hts (.fieldLink RX12 14 "CardTablesModel" "isThere" "[Z") (zt_t5 58 rfl rfl)) (fun _ h9 => h9) rfl hin rfl (by decide +kernel) rfl rfl (Nat.le_of_ble_eq_true rfl) dX12_init_16 (fun H locs hP hD hS => ?_)
  have hP : va_P D vwCl ([(h0, .inr (11, [.ref q_1, .ref q_2, .null, .null, .null, .null, .int 0, .int 0, .null, .int 0, .null, .int 0, .int 0, .null, .int 0, .null, .int 0, .int 0, .null, .null, .int 0, .null, .null, .int 0, .int 0, .int 0, .null, .int 0, .int 0, .null, .null, .null, .null, .null, .int 0, .int 0]))] ++ zW K V) H := hP
  have hD : va_D A ([(h0, .inr (11, [.ref q_1, .ref q_2, .null, .null, .null, .null, .int 0, .int 0, .null, .int 0, .null, .int 0, .int 0, .null, .int 0, .null, .int 0, .int 0, .null, .null, .int 0, .null, .null, .int 0, .int 0, .int 0, .null, .int 0, .int 0, .null, .null, .null, .null, .null, .int 0, .int 0]))] ++ zW K V) := hD
  refine lv_aload_n hx hb dX12_init_19 rfl (lv_at hl 0 rfl) ?_
  refine lv_iconst (v := 4) hx hb dX12_init_20 (by decide) ?_
  refine va_newa (atype := .int) (a0 := (4, .inl (fun _ => 0))) (N' := 4) (ty := .int) hx hb (hts (.arrayClass .int) (zt_t1 58 rfl rfl)) rfl hK hP hD hS hA (fun _ => rfl) (by decide +kernel) (by decide +kernel) (by decide +kernel) (Nat.le_of_ble_eq_true rfl) (Nat.le_of_ble_eq_true rfl) dX12_init_21 (fun q_3 cA_3 H hK hP hD hS => ?_)
  have hA1 := hK.2 0 _ rfl
  have hK := hK.sub (tys' := []) [] rfl
  obtain ⟨K, V, hC, hP, hD, hAr, hle, hq, hm⟩ := cnewM (X := [(h0, .inr (11, [.ref q_1, .ref q_2, .null, .null, .null, .null, .int 0, .int 0, .null, .int 0, .null, .int 0, .int 0, .null, .int 0, .null, .int 0, .int 0, .null, .null, .int 0, .null, .null, .int 0, .int 0, .int 0, .null, .int 0, .int 0, .null, .null, .null, .null, .null, .int 0, .int 0]))]) (k := 42) hC hm (by decide) (by decide) rfl (by decide) rfl hP hD hAr hA1
  have hz := hz.add hle hq
  clear hle hq
  refine W.widen (k := 3) (n := 47738) (by omega) (by omega) ?_
  refine va_putF (D := D) (ci := 11) (v := .ref q_3) (ty := .array .int) (C := RX12) (T := TX12) (N := 36) hx hb hts in_11 tyX12 tyX12_ok nmX12 hown hK hP hD hS 0 rfl rfl 2 (by decide) (hts (.fieldLink RX12 18 "CardTablesModel" "kept" "[I") (zt_t5 59 rfl rfl)) (fun _ h9 => h9) rfl hin rfl (by decide +kernel) rfl rfl (Nat.le_of_ble_eq_true rfl) dX12_init_23 (fun H locs hP hD hS => ?_)
  have hP : va_P D vwCl ([(h0, .inr (11, [.ref q_1, .ref q_2, .ref q_3, .null, .null, .null, .int 0, .int 0, .null, .int 0, .null, .int 0, .int 0, .null, .int 0, .null, .int 0, .int 0, .null, .null, .int 0, .null, .null, .int 0, .int 0, .int 0, .null, .int 0, .int 0, .null, .null, .null, .null, .null, .int 0, .int 0]))] ++ zW K V) H := hP
  have hD : va_D A ([(h0, .inr (11, [.ref q_1, .ref q_2, .ref q_3, .null, .null, .null, .int 0, .int 0, .null, .int 0, .null, .int 0, .int 0, .null, .int 0, .null, .int 0, .int 0, .null, .null, .int 0, .null, .null, .int 0, .int 0, .int 0, .null, .int 0, .int 0, .null, .null, .null, .null, .null, .int 0, .int 0]))] ++ zW K V) := hD
  refine lv_aload_n hx hb dX12_init_26 rfl (lv_at hl 0 rfl) ?_
  refine lv_bipush (v := 6) hx hb dX12_init_27 (by decide) ?_
  refine va_newa (atype := .int) (a0 := (6, .inl (fun _ => 0))) (N' := 6) (ty := .int) hx hb (hts (.arrayClass .int) (zt_t1 58 rfl rfl)) rfl hK hP hD hS hA (fun _ => rfl) (by decide +kernel) (by decide +kernel) (by decide +kernel) (Nat.le_of_ble_eq_true rfl) (Nat.le_of_ble_eq_true rfl) dX12_init_29 (fun q43 cA43 H hK hP hD hS => ?_)
  have hP := hP.swap (a := [(h0, .inr (11, [.ref q_1, .ref q_2, .ref q_3, .null, .null, .null, .int 0, .int 0, .null, .int 0, .null, .int 0, .int 0, .null, .int 0, .null, .int 0, .int 0, .null, .null, .int 0, .null, .null, .int 0, .int 0, .int 0, .null, .int 0, .int 0, .null, .null, .null, .null, .null, .int 0, .int 0]))])
  have hD := hD.swap (a := [(h0, .inr (11, [.ref q_1, .ref q_2, .ref q_3, .null, .null, .null, .int 0, .int 0, .null, .int 0, .null, .int 0, .int 0, .null, .int 0, .null, .int 0, .int 0, .null, .null, .int 0, .null, .null, .int 0, .int 0, .int 0, .null, .int 0, .int 0, .null, .null, .null, .null, .null, .int 0, .int 0]))])
  have hP : va_P D vwCl ([(h0, .inr (11, [.ref q_1, .ref q_2, .ref q_3, .null, .null, .null, .int 0, .int 0, .null, .int 0, .null, .int 0, .int 0, .null, .int 0, .null, .int 0, .int 0, .null, .null, .int 0, .null, .null, .int 0, .int 0, .int 0, .null, .int 0, .int 0, .null, .null, .null, .null, .null, .int 0, .int 0])), (q43, .inl (cA43, 6, .inl (fun _ => 0)))] ++ zW K V) H := hP
  have hD : va_D A ([(h0, .inr (11, [.ref q_1, .ref q_2, .ref q_3, .null, .null, .null, .int 0, .int 0, .null, .int 0, .null, .int 0, .int 0, .null, .int 0, .null, .int 0, .int 0, .null, .null, .int 0, .null, .null, .int 0, .int 0, .int 0, .null, .int 0, .int 0, .null, .null, .null, .null, .null, .int 0, .int 0])), (q43, .inl (cA43, 6, .inl (fun _ => 0)))] ++ zW K V) := hD
  have hK : va_K D vwCl [(cA43, .int)] s := hK
  refine W.widen (k := 4) (n := 47744) (by omega) (by omega) ?_
  refine va_putF (D := D) (ci := 11) (v := .ref q43) (ty := .array .int) (C := RX12) (T := TX12) (N := 36) hx hb hts in_11 tyX12 tyX12_ok nmX12 hown hK hP hD hS 0 rfl rfl 3 (by decide) (hts (.fieldLink RX12 21 "CardTablesModel" "gameKind" "[I") (zt_t5 60 rfl rfl)) (fun _ h9 => h9) rfl hin rfl (by decide +kernel) rfl rfl (Nat.le_of_ble_eq_true rfl) dX12_init_31 (fun H locs hP hD hS => ?_)
  have hP : va_P D vwCl ([(h0, .inr (11, [.ref q_1, .ref q_2, .ref q_3, .ref q43, .null, .null, .int 0, .int 0, .null, .int 0, .null, .int 0, .int 0, .null, .int 0, .null, .int 0, .int 0, .null, .null, .int 0, .null, .null, .int 0, .int 0, .int 0, .null, .int 0, .int 0, .null, .null, .null, .null, .null, .int 0, .int 0])), (q43, .inl (cA43, 6, .inl (fun _ => 0)))] ++ zW K V) H := hP
  have hD : va_D A ([(h0, .inr (11, [.ref q_1, .ref q_2, .ref q_3, .ref q43, .null, .null, .int 0, .int 0, .null, .int 0, .null, .int 0, .int 0, .null, .int 0, .null, .int 0, .int 0, .null, .null, .int 0, .null, .null, .int 0, .int 0, .int 0, .null, .int 0, .int 0, .null, .null, .null, .null, .null, .int 0, .int 0])), (q43, .inl (cA43, 6, .inl (fun _ => 0)))] ++ zW K V) := hD
  refine lv_aload_n hx hb dX12_init_34 rfl (lv_at hl 0 rfl) ?_
  refine lv_bipush (v := 6) hx hb dX12_init_35 (by decide) ?_
  refine va_newa (atype := .int) (a0 := (6, .inl (fun _ => 0))) (N' := 6) (ty := .int) hx hb (hts (.arrayClass .int) (zt_t1 58 rfl rfl)) rfl hK hP hD hS hA (fun _ => rfl) (by decide +kernel) (by decide +kernel) (by decide +kernel) (Nat.le_of_ble_eq_true rfl) (Nat.le_of_ble_eq_true rfl) dX12_init_37 (fun q_4 cA_4 H hK hP hD hS => ?_)
  have hA1 := hK.2 1 _ rfl
  have hK := hK.sub (tys' := [(cA43, .int)]) [0] rfl
  obtain ⟨K, V, hC, hP, hD, hAr, hle, hq, hm⟩ := cnewM (X := [(h0, .inr (11, [.ref q_1, .ref q_2, .ref q_3, .ref q43, .null, .null, .int 0, .int 0, .null, .int 0, .null, .int 0, .int 0, .null, .int 0, .null, .int 0, .int 0, .null, .null, .int 0, .null, .null, .int 0, .int 0, .int 0, .null, .int 0, .int 0, .null, .null, .null, .null, .null, .int 0, .int 0])), (q43, .inl (cA43, 6, .inl (fun _ => 0)))]) (k := 44) hC hm (by decide) (by decide) rfl (by decide) rfl hP hD hAr hA1
  have hz := hz.add hle hq
  clear hle hq
  refine W.widen (k := 5) (n := 47750) (by omega) (by omega) ?_
  refine va_putF (D := D) (ci := 11) (v := .ref q_4) (ty := .array .int) (C := RX12) (T := TX12) (N := 36) hx hb hts in_11 tyX12 tyX12_ok nmX12 hown hK hP hD hS 0 rfl rfl 4 (by decide) (hts (.fieldLink RX12 24 "CardTablesModel" "gameFirst" "[I") (zt_t5 61 rfl rfl)) (fun _ h9 => h9) rfl hin rfl (by decide +kernel) rfl rfl (Nat.le_of_ble_eq_true rfl) dX12_init_39 (fun H locs hP hD hS => ?_)
  have hP : va_P D vwCl ([(h0, .inr (11, [.ref q_1, .ref q_2, .ref q_3, .ref q43, .ref q_4, .null, .int 0, .int 0, .null, .int 0, .null, .int 0, .int 0, .null, .int 0, .null, .int 0, .int 0, .null, .null, .int 0, .null, .null, .int 0, .int 0, .int 0, .null, .int 0, .int 0, .null, .null, .null, .null, .null, .int 0, .int 0])), (q43, .inl (cA43, 6, .inl (fun _ => 0)))] ++ zW K V) H := hP
  have hD : va_D A ([(h0, .inr (11, [.ref q_1, .ref q_2, .ref q_3, .ref q43, .ref q_4, .null, .int 0, .int 0, .null, .int 0, .null, .int 0, .int 0, .null, .int 0, .null, .int 0, .int 0, .null, .null, .int 0, .null, .null, .int 0, .int 0, .int 0, .null, .int 0, .int 0, .null, .null, .null, .null, .null, .int 0, .int 0])), (q43, .inl (cA43, 6, .inl (fun _ => 0)))] ++ zW K V) := hD
  refine lv_aload_n hx hb dX12_init_42 rfl (lv_at hl 0 rfl) ?_
  refine lv_bipush (v := 6) hx hb dX12_init_43 (by decide) ?_
  refine va_newa (atype := .int) (a0 := (6, .inl (fun _ => 0))) (N' := 6) (ty := .int) hx hb (hts (.arrayClass .int) (zt_t1 58 rfl rfl)) rfl hK hP hD hS hA (fun _ => rfl) (by decide +kernel) (by decide +kernel) (by decide +kernel) (Nat.le_of_ble_eq_true rfl) (Nat.le_of_ble_eq_true rfl) dX12_init_45 (fun q_5 cA_5 H hK hP hD hS => ?_)
  have hA1 := hK.2 1 _ rfl
  have hK := hK.sub (tys' := [(cA43, .int)]) [0] rfl
  obtain ⟨K, V, hC, hP, hD, hAr, hle, hq, hm⟩ := cnewM (X := [(h0, .inr (11, [.ref q_1, .ref q_2, .ref q_3, .ref q43, .ref q_4, .null, .int 0, .int 0, .null, .int 0, .null, .int 0, .int 0, .null, .int 0, .null, .int 0, .int 0, .null, .null, .int 0, .null, .null, .int 0, .int 0, .int 0, .null, .int 0, .int 0, .null, .null, .null, .null, .null, .int 0, .int 0])), (q43, .inl (cA43, 6, .inl (fun _ => 0)))]) (k := 45) hC hm (by decide) (by decide) rfl (by decide) rfl hP hD hAr hA1
  have hz := hz.add hle hq
  clear hle hq
  refine W.widen (k := 6) (n := 47756) (by omega) (by omega) ?_
  refine va_putF (D := D) (ci := 11) (v := .ref q_5) (ty := .array .int) (C := RX12) (T := TX12) (N := 36) hx hb hts in_11 tyX12 tyX12_ok nmX12 hown hK hP hD hS 0 rfl rfl 5 (by decide) (hts (.fieldLink RX12 27 "CardTablesModel" "gameSecond" "[I") (zt_t5 62 rfl rfl)) (fun _ h9 => h9) rfl hin rfl (by decide +kernel) rfl rfl (Nat.le_of_ble_eq_true rfl) dX12_init_47 (fun H locs hP hD hS => ?_)
  have hP : va_P D vwCl ([(h0, .inr (11, [.ref q_1, .ref q_2, .ref q_3, .ref q43, .ref q_4, .ref q_5, .int 0, .int 0, .null, .int 0, .null, .int 0, .int 0, .null, .int 0, .null, .int 0, .int 0, .null, .null, .int 0, .null, .null, .int 0, .int 0, .int 0, .null, .int 0, .int 0, .null, .null, .null, .null, .null, .int 0, .int 0])), (q43, .inl (cA43, 6, .inl (fun _ => 0)))] ++ zW K V) H := hP
  have hD : va_D A ([(h0, .inr (11, [.ref q_1, .ref q_2, .ref q_3, .ref q43, .ref q_4, .ref q_5, .int 0, .int 0, .null, .int 0, .null, .int 0, .int 0, .null, .int 0, .null, .int 0, .int 0, .null, .null, .int 0, .null, .null, .int 0, .int 0, .int 0, .null, .int 0, .int 0, .null, .null, .null, .null, .null, .int 0, .int 0])), (q43, .inl (cA43, 6, .inl (fun _ => 0)))] ++ zW K V) := hD
  refine lv_aload_n hx hb dX12_init_50 rfl (lv_at hl 0 rfl) ?_
  refine lv_sipush (v := 300) hx hb dX12_init_51 (by decide) ?_
  refine va_newa (atype := .int) (a0 := (300, .inl (fun _ => 0))) (N' := 300) (ty := .int) hx hb (hts (.arrayClass .int) (zt_t1 58 rfl rfl)) rfl hK hP hD hS hA (fun _ => rfl) (by decide +kernel) (by decide +kernel) (by decide +kernel) (Nat.le_of_ble_eq_true rfl) (Nat.le_of_ble_eq_true rfl) dX12_init_54 (fun q_6 cA_6 H hK hP hD hS => ?_)
  have hA1 := hK.2 1 _ rfl
  have hK := hK.sub (tys' := [(cA43, .int)]) [0] rfl
  obtain ⟨K, V, hC, hP, hD, hAr, hle, hq, hm⟩ := cnewM (X := [(h0, .inr (11, [.ref q_1, .ref q_2, .ref q_3, .ref q43, .ref q_4, .ref q_5, .int 0, .int 0, .null, .int 0, .null, .int 0, .int 0, .null, .int 0, .null, .int 0, .int 0, .null, .null, .int 0, .null, .null, .int 0, .int 0, .int 0, .null, .int 0, .int 0, .null, .null, .null, .null, .null, .int 0, .int 0])), (q43, .inl (cA43, 6, .inl (fun _ => 0)))]) (k := 48) hC hm (by decide) (by decide) rfl (by decide) rfl hP hD hAr hA1
  have hz := hz.add hle hq
  clear hle hq
  refine W.widen (k := 7) (n := 48056) (by omega) (by omega) ?_
  refine va_putF (D := D) (ci := 11) (v := .ref q_6) (ty := .array .int) (C := RX12) (T := TX12) (N := 36) hx hb hts in_11 tyX12 tyX12_ok nmX12 hown hK hP hD hS 0 rfl rfl 8 (by decide) (hts (.fieldLink RX12 30 "CardTablesModel" "findings" "[I") (zt_t5 65 rfl rfl)) (fun _ h9 => h9) rfl hin rfl (by decide +kernel) rfl rfl (Nat.le_of_ble_eq_true rfl) dX12_init_56 (fun H locs hP hD hS => ?_)
  have hP : va_P D vwCl ([(h0, .inr (11, [.ref q_1, .ref q_2, .ref q_3, .ref q43, .ref q_4, .ref q_5, .int 0, .int 0, .ref q_6, .int 0, .null, .int 0, .int 0, .null, .int 0, .null, .int 0, .int 0, .null, .null, .int 0, .null, .null, .int 0, .int 0, .int 0, .null, .int 0, .int 0, .null, .null, .null, .null, .null, .int 0, .int 0])), (q43, .inl (cA43, 6, .inl (fun _ => 0)))] ++ zW K V) H := hP
  have hD : va_D A ([(h0, .inr (11, [.ref q_1, .ref q_2, .ref q_3, .ref q43, .ref q_4, .ref q_5, .int 0, .int 0, .ref q_6, .int 0, .null, .int 0, .int 0, .null, .int 0, .null, .int 0, .int 0, .null, .null, .int 0, .null, .null, .int 0, .int 0, .int 0, .null, .int 0, .int 0, .null, .null, .null, .null, .null, .int 0, .int 0])), (q43, .inl (cA43, 6, .inl (fun _ => 0)))] ++ zW K V) := hD
  refine lv_aload_n hx hb dX12_init_59 rfl (lv_at hl 0 rfl) ?_
  refine lv_bipush (v := 60) hx hb dX12_init_60 (by decide) ?_
  refine va_newa (atype := .int) (a0 := (60, .inl (fun _ => 0))) (N' := 60) (ty := .int) hx hb (hts (.arrayClass .int) (zt_t1 58 rfl rfl)) rfl hK hP hD hS hA (fun _ => rfl) (by decide +kernel) (by decide +kernel) (by decide +kernel) (Nat.le_of_ble_eq_true rfl) (Nat.le_of_ble_eq_true rfl) dX12_init_62 (fun q_7 cA_7 H hK hP hD hS => ?_)
  have hA1 := hK.2 1 _ rfl
  have hK := hK.sub (tys' := [(cA43, .int)]) [0] rfl
  obtain ⟨K, V, hC, hP, hD, hAr, hle, hq, hm⟩ := cnewM (X := [(h0, .inr (11, [.ref q_1, .ref q_2, .ref q_3, .ref q43, .ref q_4, .ref q_5, .int 0, .int 0, .ref q_6, .int 0, .null, .int 0, .int 0, .null, .int 0, .null, .int 0, .int 0, .null, .null, .int 0, .null, .null, .int 0, .int 0, .int 0, .null, .int 0, .int 0, .null, .null, .null, .null, .null, .int 0, .int 0])), (q43, .inl (cA43, 6, .inl (fun _ => 0)))]) (k := 50) hC hm (by decide) (by decide) rfl (by decide) rfl hP hD hAr hA1
  have hz := hz.add hle hq
  clear hle hq
  refine W.widen (k := 8) (n := 48116) (by omega) (by omega) ?_
  refine va_putF (D := D) (ci := 11) (v := .ref q_7) (ty := .array .int) (C := RX12) (T := TX12) (N := 36) hx hb hts in_11 tyX12 tyX12_ok nmX12 hown hK hP hD hS 0 rfl rfl 10 (by decide) (hts (.fieldLink RX12 33 "CardTablesModel" "bodies" "[I") (zt_t5 67 rfl rfl)) (fun _ h9 => h9) rfl hin rfl (by decide +kernel) rfl rfl (Nat.le_of_ble_eq_true rfl) dX12_init_64 (fun H locs hP hD hS => ?_)
  have hP : va_P D vwCl ([(h0, .inr (11, [.ref q_1, .ref q_2, .ref q_3, .ref q43, .ref q_4, .ref q_5, .int 0, .int 0, .ref q_6, .int 0, .ref q_7, .int 0, .int 0, .null, .int 0, .null, .int 0, .int 0, .null, .null, .int 0, .null, .null, .int 0, .int 0, .int 0, .null, .int 0, .int 0, .null, .null, .null, .null, .null, .int 0, .int 0])), (q43, .inl (cA43, 6, .inl (fun _ => 0)))] ++ zW K V) H := hP
  have hD : va_D A ([(h0, .inr (11, [.ref q_1, .ref q_2, .ref q_3, .ref q43, .ref q_4, .ref q_5, .int 0, .int 0, .ref q_6, .int 0, .ref q_7, .int 0, .int 0, .null, .int 0, .null, .int 0, .int 0, .null, .null, .int 0, .null, .null, .int 0, .int 0, .int 0, .null, .int 0, .int 0, .null, .null, .null, .null, .null, .int 0, .int 0])), (q43, .inl (cA43, 6, .inl (fun _ => 0)))] ++ zW K V) := hD
  refine lv_aload_n hx hb dX12_init_67 rfl (lv_at hl 0 rfl) ?_
  refine lv_bipush (v := 60) hx hb dX12_init_68 (by decide) ?_
  refine va_newa (atype := .int) (a0 := (60, .inl (fun _ => 0))) (N' := 60) (ty := .int) hx hb (hts (.arrayClass .int) (zt_t1 58 rfl rfl)) rfl hK hP hD hS hA (fun _ => rfl) (by decide +kernel) (by decide +kernel) (by decide +kernel) (Nat.le_of_ble_eq_true rfl) (Nat.le_of_ble_eq_true rfl) dX12_init_70 (fun q_8 cA_8 H hK hP hD hS => ?_)
  have hA1 := hK.2 1 _ rfl
  have hK := hK.sub (tys' := [(cA43, .int)]) [0] rfl
  obtain ⟨K, V, hC, hP, hD, hAr, hle, hq, hm⟩ := cnewM (X := [(h0, .inr (11, [.ref q_1, .ref q_2, .ref q_3, .ref q43, .ref q_4, .ref q_5, .int 0, .int 0, .ref q_6, .int 0, .ref q_7, .int 0, .int 0, .null, .int 0, .null, .int 0, .int 0, .null, .null, .int 0, .null, .null, .int 0, .int 0, .int 0, .null, .int 0, .int 0, .null, .null, .null, .null, .null, .int 0, .int 0])), (q43, .inl (cA43, 6, .inl (fun _ => 0)))]) (k := 53) hC hm (by decide) (by decide) rfl (by decide) rfl hP hD hAr hA1
  have hz := hz.add hle hq
  clear hle hq
  refine W.widen (k := 9) (n := 48176) (by omega) (by omega) ?_
  refine va_putF (D := D) (ci := 11) (v := .ref q_8) (ty := .array .int) (C := RX12) (T := TX12) (N := 36) hx hb hts in_11 tyX12 tyX12_ok nmX12 hown hK hP hD hS 0 rfl rfl 13 (by decide) (hts (.fieldLink RX12 36 "CardTablesModel" "held" "[I") (zt_t5 70 rfl rfl)) (fun _ h9 => h9) rfl hin rfl (by decide +kernel) rfl rfl (Nat.le_of_ble_eq_true rfl) dX12_init_72 (fun H locs hP hD hS => ?_)
  have hP : va_P D vwCl ([(h0, .inr (11, [.ref q_1, .ref q_2, .ref q_3, .ref q43, .ref q_4, .ref q_5, .int 0, .int 0, .ref q_6, .int 0, .ref q_7, .int 0, .int 0, .ref q_8, .int 0, .null, .int 0, .int 0, .null, .null, .int 0, .null, .null, .int 0, .int 0, .int 0, .null, .int 0, .int 0, .null, .null, .null, .null, .null, .int 0, .int 0])), (q43, .inl (cA43, 6, .inl (fun _ => 0)))] ++ zW K V) H := hP
  have hD : va_D A ([(h0, .inr (11, [.ref q_1, .ref q_2, .ref q_3, .ref q43, .ref q_4, .ref q_5, .int 0, .int 0, .ref q_6, .int 0, .ref q_7, .int 0, .int 0, .ref q_8, .int 0, .null, .int 0, .int 0, .null, .null, .int 0, .null, .null, .int 0, .int 0, .int 0, .null, .int 0, .int 0, .null, .null, .null, .null, .null, .int 0, .int 0])), (q43, .inl (cA43, 6, .inl (fun _ => 0)))] ++ zW K V) := hD
  refine lv_aload_n hx hb dX12_init_75 rfl (lv_at hl 0 rfl) ?_
  refine lv_iconst (v := 4) hx hb dX12_init_76 (by decide) ?_
  refine va_newa (atype := .int) (a0 := (4, .inl (fun _ => 0))) (N' := 4) (ty := .int) hx hb (hts (.arrayClass .int) (zt_t1 58 rfl rfl)) rfl hK hP hD hS hA (fun _ => rfl) (by decide +kernel) (by decide +kernel) (by decide +kernel) (Nat.le_of_ble_eq_true rfl) (Nat.le_of_ble_eq_true rfl) dX12_init_77 (fun q_9 cA_9 H hK hP hD hS => ?_)
  have hA1 := hK.2 1 _ rfl
  have hK := hK.sub (tys' := [(cA43, .int)]) [0] rfl
  obtain ⟨K, V, hC, hP, hD, hAr, hle, hq, hm⟩ := cnewM (X := [(h0, .inr (11, [.ref q_1, .ref q_2, .ref q_3, .ref q43, .ref q_4, .ref q_5, .int 0, .int 0, .ref q_6, .int 0, .ref q_7, .int 0, .int 0, .ref q_8, .int 0, .null, .int 0, .int 0, .null, .null, .int 0, .null, .null, .int 0, .int 0, .int 0, .null, .int 0, .int 0, .null, .null, .null, .null, .null, .int 0, .int 0])), (q43, .inl (cA43, 6, .inl (fun _ => 0)))]) (k := 55) hC hm (by decide) (by decide) rfl (by decide) rfl hP hD hAr hA1
  have hz := hz.add hle hq
  clear hle hq
  refine W.widen (k := 10) (n := 48180) (by omega) (by omega) ?_
  refine va_putF (D := D) (ci := 11) (v := .ref q_9) (ty := .array .int) (C := RX12) (T := TX12) (N := 36) hx hb hts in_11 tyX12 tyX12_ok nmX12 hown hK hP hD hS 0 rfl rfl 15 (by decide) (hts (.fieldLink RX12 39 "CardTablesModel" "lies" "[I") (zt_t5 72 rfl rfl)) (fun _ h9 => h9) rfl hin rfl (by decide +kernel) rfl rfl (Nat.le_of_ble_eq_true rfl) dX12_init_79 (fun H locs hP hD hS => ?_)
  have hP : va_P D vwCl ([(h0, .inr (11, [.ref q_1, .ref q_2, .ref q_3, .ref q43, .ref q_4, .ref q_5, .int 0, .int 0, .ref q_6, .int 0, .ref q_7, .int 0, .int 0, .ref q_8, .int 0, .ref q_9, .int 0, .int 0, .null, .null, .int 0, .null, .null, .int 0, .int 0, .int 0, .null, .int 0, .int 0, .null, .null, .null, .null, .null, .int 0, .int 0])), (q43, .inl (cA43, 6, .inl (fun _ => 0)))] ++ zW K V) H := hP
  have hD : va_D A ([(h0, .inr (11, [.ref q_1, .ref q_2, .ref q_3, .ref q43, .ref q_4, .ref q_5, .int 0, .int 0, .ref q_6, .int 0, .ref q_7, .int 0, .int 0, .ref q_8, .int 0, .ref q_9, .int 0, .int 0, .null, .null, .int 0, .null, .null, .int 0, .int 0, .int 0, .null, .int 0, .int 0, .null, .null, .null, .null, .null, .int 0, .int 0])), (q43, .inl (cA43, 6, .inl (fun _ => 0)))] ++ zW K V) := hD
  refine lv_aload_n hx hb dX12_init_82 rfl (lv_at hl 0 rfl) ?_
  refine lv_bipush (v := 16) hx hb dX12_init_83 (by decide) ?_
  refine va_newa (atype := .int) (a0 := (16, .inl (fun _ => 0))) (N' := 16) (ty := .int) hx hb (hts (.arrayClass .int) (zt_t1 58 rfl rfl)) rfl hK hP hD hS hA (fun _ => rfl) (by decide +kernel) (by decide +kernel) (by decide +kernel) (Nat.le_of_ble_eq_true rfl) (Nat.le_of_ble_eq_true rfl) dX12_init_85 (fun q_10 cA_10 H hK hP hD hS => ?_)
  have hA1 := hK.2 1 _ rfl
  have hK := hK.sub (tys' := [(cA43, .int)]) [0] rfl
  obtain ⟨K, V, hC, hP, hD, hAr, hle, hq, hm⟩ := cnewM (X := [(h0, .inr (11, [.ref q_1, .ref q_2, .ref q_3, .ref q43, .ref q_4, .ref q_5, .int 0, .int 0, .ref q_6, .int 0, .ref q_7, .int 0, .int 0, .ref q_8, .int 0, .ref q_9, .int 0, .int 0, .null, .null, .int 0, .null, .null, .int 0, .int 0, .int 0, .null, .int 0, .int 0, .null, .null, .null, .null, .null, .int 0, .int 0])), (q43, .inl (cA43, 6, .inl (fun _ => 0)))]) (k := 58) hC hm (by decide) (by decide) rfl (by decide) rfl hP hD hAr hA1
  have hz := hz.add hle hq
  clear hle hq
  refine W.widen (k := 11) (n := 48196) (by omega) (by omega) ?_
  refine va_putF (D := D) (ci := 11) (v := .ref q_10) (ty := .array .int) (C := RX12) (T := TX12) (N := 36) hx hb hts in_11 tyX12 tyX12_ok nmX12 hown hK hP hD hS 0 rfl rfl 18 (by decide) (hts (.fieldLink RX12 42 "CardTablesModel" "slots" "[I") (zt_t5 75 rfl rfl)) (fun _ h9 => h9) rfl hin rfl (by decide +kernel) rfl rfl (Nat.le_of_ble_eq_true rfl) dX12_init_87 (fun H locs hP hD hS => ?_)
  have hP : va_P D vwCl ([(h0, .inr (11, [.ref q_1, .ref q_2, .ref q_3, .ref q43, .ref q_4, .ref q_5, .int 0, .int 0, .ref q_6, .int 0, .ref q_7, .int 0, .int 0, .ref q_8, .int 0, .ref q_9, .int 0, .int 0, .ref q_10, .null, .int 0, .null, .null, .int 0, .int 0, .int 0, .null, .int 0, .int 0, .null, .null, .null, .null, .null, .int 0, .int 0])), (q43, .inl (cA43, 6, .inl (fun _ => 0)))] ++ zW K V) H := hP
  have hD : va_D A ([(h0, .inr (11, [.ref q_1, .ref q_2, .ref q_3, .ref q43, .ref q_4, .ref q_5, .int 0, .int 0, .ref q_6, .int 0, .ref q_7, .int 0, .int 0, .ref q_8, .int 0, .ref q_9, .int 0, .int 0, .ref q_10, .null, .int 0, .null, .null, .int 0, .int 0, .int 0, .null, .int 0, .int 0, .null, .null, .null, .null, .null, .int 0, .int 0])), (q43, .inl (cA43, 6, .inl (fun _ => 0)))] ++ zW K V) := hD
  refine lv_aload_n hx hb dX12_init_90 rfl (lv_at hl 0 rfl) ?_
  refine lv_iconst (v := 4) hx hb dX12_init_91 (by decide) ?_
  refine va_newa (atype := .int) (a0 := (4, .inl (fun _ => 0))) (N' := 4) (ty := .int) hx hb (hts (.arrayClass .int) (zt_t1 58 rfl rfl)) rfl hK hP hD hS hA (fun _ => rfl) (by decide +kernel) (by decide +kernel) (by decide +kernel) (Nat.le_of_ble_eq_true rfl) (Nat.le_of_ble_eq_true rfl) dX12_init_92 (fun q_11 cA_11 H hK hP hD hS => ?_)
  have hA1 := hK.2 1 _ rfl
  have hK := hK.sub (tys' := [(cA43, .int)]) [0] rfl
  obtain ⟨K, V, hC, hP, hD, hAr, hle, hq, hm⟩ := cnewM (X := [(h0, .inr (11, [.ref q_1, .ref q_2, .ref q_3, .ref q43, .ref q_4, .ref q_5, .int 0, .int 0, .ref q_6, .int 0, .ref q_7, .int 0, .int 0, .ref q_8, .int 0, .ref q_9, .int 0, .int 0, .ref q_10, .null, .int 0, .null, .null, .int 0, .int 0, .int 0, .null, .int 0, .int 0, .null, .null, .null, .null, .null, .int 0, .int 0])), (q43, .inl (cA43, 6, .inl (fun _ => 0)))]) (k := 59) hC hm (by decide) (by decide) rfl (by decide) rfl hP hD hAr hA1
  have hz := hz.add hle hq
  clear hle hq
  refine W.widen (k := 12) (n := 48200) (by omega) (by omega) ?_
  refine va_putF (D := D) (ci := 11) (v := .ref q_11) (ty := .array .int) (C := RX12) (T := TX12) (N := 36) hx hb hts in_11 tyX12 tyX12_ok nmX12 hown hK hP hD hS 0 rfl rfl 19 (by decide) (hts (.fieldLink RX12 45 "CardTablesModel" "many" "[I") (zt_t5 76 rfl rfl)) (fun _ h9 => h9) rfl hin rfl (by decide +kernel) rfl rfl (Nat.le_of_ble_eq_true rfl) dX12_init_94 (fun H locs hP hD hS => ?_)
  have hP : va_P D vwCl ([(h0, .inr (11, [.ref q_1, .ref q_2, .ref q_3, .ref q43, .ref q_4, .ref q_5, .int 0, .int 0, .ref q_6, .int 0, .ref q_7, .int 0, .int 0, .ref q_8, .int 0, .ref q_9, .int 0, .int 0, .ref q_10, .ref q_11, .int 0, .null, .null, .int 0, .int 0, .int 0, .null, .int 0, .int 0, .null, .null, .null, .null, .null, .int 0, .int 0])), (q43, .inl (cA43, 6, .inl (fun _ => 0)))] ++ zW K V) H := hP
  have hD : va_D A ([(h0, .inr (11, [.ref q_1, .ref q_2, .ref q_3, .ref q43, .ref q_4, .ref q_5, .int 0, .int 0, .ref q_6, .int 0, .ref q_7, .int 0, .int 0, .ref q_8, .int 0, .ref q_9, .int 0, .int 0, .ref q_10, .ref q_11, .int 0, .null, .null, .int 0, .int 0, .int 0, .null, .int 0, .int 0, .null, .null, .null, .null, .null, .int 0, .int 0])), (q43, .inl (cA43, 6, .inl (fun _ => 0)))] ++ zW K V) := hD
  refine lv_aload_n hx hb dX12_init_97 rfl (lv_at hl 0 rfl) ?_
  refine lv_ldc (v := 262144) hx hb hown (hts (.constant RX12 48 262144) (zt_t5 56 rfl rfl)) dX12_init_98 ?_
  refine va_newa (atype := .byte) (a0 := (262144, .inl (fun _ => 0))) (N' := 262144) (ty := .byte) hx hb (hts (.arrayClass .byte) (zt_t5 166 rfl rfl)) rfl hK hP hD hS hA (fun _ => rfl) (by decide +kernel) (by decide +kernel) (by decide +kernel) (Nat.le_of_ble_eq_true rfl) (Nat.le_of_ble_eq_true rfl) dX12_init_100 (fun q_12 cA_12 H hK hP hD hS => ?_)
  have hA1 := hK.2 1 _ rfl
  have hK := hK.sub (tys' := [(cA43, .int)]) [0] rfl
  obtain ⟨K, V, hC, hP, hD, hAr, hle, hq, hm⟩ := cnewM (X := [(h0, .inr (11, [.ref q_1, .ref q_2, .ref q_3, .ref q43, .ref q_4, .ref q_5, .int 0, .int 0, .ref q_6, .int 0, .ref q_7, .int 0, .int 0, .ref q_8, .int 0, .ref q_9, .int 0, .int 0, .ref q_10, .ref q_11, .int 0, .null, .null, .int 0, .int 0, .int 0, .null, .int 0, .int 0, .null, .null, .null, .null, .null, .int 0, .int 0])), (q43, .inl (cA43, 6, .inl (fun _ => 0)))]) (k := 61) hC hm (by decide) (by decide) rfl (by decide) rfl hP hD hAr hA1
  have hz := hz.add hle hq
  clear hle hq
  refine W.widen (k := 13) (n := 310344) (by omega) (by omega) ?_
  refine va_putF (D := D) (ci := 11) (v := .ref q_12) (ty := .array .byte) (C := RX12) (T := TX12) (N := 36) hx hb hts in_11 tyX12 tyX12_ok nmX12 hown hK hP hD hS 0 rfl rfl 21 (by decide) (hts (.fieldLink RX12 49 "CardTablesModel" "sure" "[B") (zt_t5 78 rfl rfl)) (fun _ h9 => h9) rfl hin rfl (by decide +kernel) rfl rfl (Nat.le_of_ble_eq_true rfl) dX12_init_102 (fun H locs hP hD hS => ?_)
  have hP : va_P D vwCl ([(h0, .inr (11, [.ref q_1, .ref q_2, .ref q_3, .ref q43, .ref q_4, .ref q_5, .int 0, .int 0, .ref q_6, .int 0, .ref q_7, .int 0, .int 0, .ref q_8, .int 0, .ref q_9, .int 0, .int 0, .ref q_10, .ref q_11, .int 0, .ref q_12, .null, .int 0, .int 0, .int 0, .null, .int 0, .int 0, .null, .null, .null, .null, .null, .int 0, .int 0])), (q43, .inl (cA43, 6, .inl (fun _ => 0)))] ++ zW K V) H := hP
  have hD : va_D A ([(h0, .inr (11, [.ref q_1, .ref q_2, .ref q_3, .ref q43, .ref q_4, .ref q_5, .int 0, .int 0, .ref q_6, .int 0, .ref q_7, .int 0, .int 0, .ref q_8, .int 0, .ref q_9, .int 0, .int 0, .ref q_10, .ref q_11, .int 0, .ref q_12, .null, .int 0, .int 0, .int 0, .null, .int 0, .int 0, .null, .null, .null, .null, .null, .int 0, .int 0])), (q43, .inl (cA43, 6, .inl (fun _ => 0)))] ++ zW K V) := hD
  refine lv_aload_n hx hb dX12_init_105 rfl (lv_at hl 0 rfl) ?_
  refine lv_ldc (v := 262144) hx hb hown (hts (.constant RX12 48 262144) (zt_t5 56 rfl rfl)) dX12_init_106 ?_
  refine va_newa (atype := .byte) (a0 := (262144, .inl (fun _ => 0))) (N' := 262144) (ty := .byte) hx hb (hts (.arrayClass .byte) (zt_t5 166 rfl rfl)) rfl hK hP hD hS hA (fun _ => rfl) (by decide +kernel) (by decide +kernel) (by decide +kernel) (Nat.le_of_ble_eq_true rfl) (Nat.le_of_ble_eq_true rfl) dX12_init_108 (fun q_13 cA_13 H hK hP hD hS => ?_)
  have hA1 := hK.2 1 _ rfl
  have hK := hK.sub (tys' := [(cA43, .int)]) [0] rfl
  obtain ⟨K, V, hC, hP, hD, hAr, hle, hq, hm⟩ := cnewM (X := [(h0, .inr (11, [.ref q_1, .ref q_2, .ref q_3, .ref q43, .ref q_4, .ref q_5, .int 0, .int 0, .ref q_6, .int 0, .ref q_7, .int 0, .int 0, .ref q_8, .int 0, .ref q_9, .int 0, .int 0, .ref q_10, .ref q_11, .int 0, .ref q_12, .null, .int 0, .int 0, .int 0, .null, .int 0, .int 0, .null, .null, .null, .null, .null, .int 0, .int 0])), (q43, .inl (cA43, 6, .inl (fun _ => 0)))]) (k := 62) hC hm (by decide) (by decide) rfl (by decide) rfl hP hD hAr hA1
  have hz := hz.add hle hq
  clear hle hq
  refine W.widen (k := 14) (n := 572488) (by omega) (by omega) ?_
  refine va_putF (D := D) (ci := 11) (v := .ref q_13) (ty := .array .byte) (C := RX12) (T := TX12) (N := 36) hx hb hts in_11 tyX12 tyX12_ok nmX12 hown hK hP hD hS 0 rfl rfl 22 (by decide) (hts (.fieldLink RX12 53 "CardTablesModel" "ruled" "[B") (zt_t5 79 rfl rfl)) (fun _ h9 => h9) rfl hin rfl (by decide +kernel) rfl rfl (Nat.le_of_ble_eq_true rfl) dX12_init_110 (fun H locs hP hD hS => ?_)
  have hP : va_P D vwCl ([(h0, .inr (11, [.ref q_1, .ref q_2, .ref q_3, .ref q43, .ref q_4, .ref q_5, .int 0, .int 0, .ref q_6, .int 0, .ref q_7, .int 0, .int 0, .ref q_8, .int 0, .ref q_9, .int 0, .int 0, .ref q_10, .ref q_11, .int 0, .ref q_12, .ref q_13, .int 0, .int 0, .int 0, .null, .int 0, .int 0, .null, .null, .null, .null, .null, .int 0, .int 0])), (q43, .inl (cA43, 6, .inl (fun _ => 0)))] ++ zW K V) H := hP
  have hD : va_D A ([(h0, .inr (11, [.ref q_1, .ref q_2, .ref q_3, .ref q43, .ref q_4, .ref q_5, .int 0, .int 0, .ref q_6, .int 0, .ref q_7, .int 0, .int 0, .ref q_8, .int 0, .ref q_9, .int 0, .int 0, .ref q_10, .ref q_11, .int 0, .ref q_12, .ref q_13, .int 0, .int 0, .int 0, .null, .int 0, .int 0, .null, .null, .null, .null, .null, .int 0, .int 0])), (q43, .inl (cA43, 6, .inl (fun _ => 0)))] ++ zW K V) := hD
  refine lv_aload_n hx hb dX12_init_113 rfl (lv_at hl 0 rfl) ?_
  refine lv_iconst (v := (-1)) hx hb dX12_init_114 (by decide) ?_
  refine va_put (D := D) (ci := 11) (v := .int (-1)) (ty := .int) (C := RX12) (T := TX12) (N := 36) hx hb hts in_11 tyX12 tyX12_ok nmX12 hown hK hP hD hS 0 rfl rfl 23 (by decide) (hts (.fieldLink RX12 56 "CardTablesModel" "solvedTable" "I") (zt_t5 80 rfl rfl)) (fun _ h9 => h9) rfl (by decide +kernel) rfl rfl (Nat.le_of_ble_eq_true rfl) dX12_init_115 (fun H locs hP hD hS => ?_)
  have hP : va_P D vwCl ([(h0, .inr (11, [.ref q_1, .ref q_2, .ref q_3, .ref q43, .ref q_4, .ref q_5, .int 0, .int 0, .ref q_6, .int 0, .ref q_7, .int 0, .int 0, .ref q_8, .int 0, .ref q_9, .int 0, .int 0, .ref q_10, .ref q_11, .int 0, .ref q_12, .ref q_13, .int (-1), .int 0, .int 0, .null, .int 0, .int 0, .null, .null, .null, .null, .null, .int 0, .int 0])), (q43, .inl (cA43, 6, .inl (fun _ => 0)))] ++ zW K V) H := hP
  have hD : va_D A ([(h0, .inr (11, [.ref q_1, .ref q_2, .ref q_3, .ref q43, .ref q_4, .ref q_5, .int 0, .int 0, .ref q_6, .int 0, .ref q_7, .int 0, .int 0, .ref q_8, .int 0, .ref q_9, .int 0, .int 0, .ref q_10, .ref q_11, .int 0, .ref q_12, .ref q_13, .int (-1), .int 0, .int 0, .null, .int 0, .int 0, .null, .null, .null, .null, .null, .int 0, .int 0])), (q43, .inl (cA43, 6, .inl (fun _ => 0)))] ++ zW K V) := hD
  refine lv_aload_n hx hb dX12_init_118 rfl (lv_at hl 0 rfl) ?_
  refine lv_iconst (v := 4) hx hb dX12_init_119 (by decide) ?_
  refine va_newa (atype := .int) (a0 := (4, .inl (fun _ => 0))) (N' := 4) (ty := .int) hx hb (hts (.arrayClass .int) (zt_t1 58 rfl rfl)) rfl hK hP hD hS hA (fun _ => rfl) (by decide +kernel) (by decide +kernel) (by decide +kernel) (Nat.le_of_ble_eq_true rfl) (Nat.le_of_ble_eq_true rfl) dX12_init_120 (fun q_14 cA_14 H hK hP hD hS => ?_)
  have hA1 := hK.2 1 _ rfl
  have hK := hK.sub (tys' := [(cA43, .int)]) [0] rfl
  obtain ⟨K, V, hC, hP, hD, hAr, hle, hq, hm⟩ := cnewM (X := [(h0, .inr (11, [.ref q_1, .ref q_2, .ref q_3, .ref q43, .ref q_4, .ref q_5, .int 0, .int 0, .ref q_6, .int 0, .ref q_7, .int 0, .int 0, .ref q_8, .int 0, .ref q_9, .int 0, .int 0, .ref q_10, .ref q_11, .int 0, .ref q_12, .ref q_13, .int (-1), .int 0, .int 0, .null, .int 0, .int 0, .null, .null, .null, .null, .null, .int 0, .int 0])), (q43, .inl (cA43, 6, .inl (fun _ => 0)))]) (k := 66) hC hm (by decide) (by decide) rfl (by decide) rfl hP hD hAr hA1
  have hz := hz.add hle hq
  clear hle hq
  refine W.widen (k := 15) (n := 572492) (by omega) (by omega) ?_
  refine va_putF (D := D) (ci := 11) (v := .ref q_14) (ty := .array .int) (C := RX12) (T := TX12) (N := 36) hx hb hts in_11 tyX12 tyX12_ok nmX12 hown hK hP hD hS 0 rfl rfl 26 (by decide) (hts (.fieldLink RX12 60 "CardTablesModel" "seats" "[I") (zt_t5 83 rfl rfl)) (fun _ h9 => h9) rfl hin rfl (by decide +kernel) rfl rfl (Nat.le_of_ble_eq_true rfl) dX12_init_122 (fun H locs hP hD hS => ?_)
  have hP : va_P D vwCl ([(h0, .inr (11, [.ref q_1, .ref q_2, .ref q_3, .ref q43, .ref q_4, .ref q_5, .int 0, .int 0, .ref q_6, .int 0, .ref q_7, .int 0, .int 0, .ref q_8, .int 0, .ref q_9, .int 0, .int 0, .ref q_10, .ref q_11, .int 0, .ref q_12, .ref q_13, .int (-1), .int 0, .int 0, .ref q_14, .int 0, .int 0, .null, .null, .null, .null, .null, .int 0, .int 0])), (q43, .inl (cA43, 6, .inl (fun _ => 0)))] ++ zW K V) H := hP
  have hD : va_D A ([(h0, .inr (11, [.ref q_1, .ref q_2, .ref q_3, .ref q43, .ref q_4, .ref q_5, .int 0, .int 0, .ref q_6, .int 0, .ref q_7, .int 0, .int 0, .ref q_8, .int 0, .ref q_9, .int 0, .int 0, .ref q_10, .ref q_11, .int 0, .ref q_12, .ref q_13, .int (-1), .int 0, .int 0, .ref q_14, .int 0, .int 0, .null, .null, .null, .null, .null, .int 0, .int 0])), (q43, .inl (cA43, 6, .inl (fun _ => 0)))] ++ zW K V) := hD
  refine lv_aload_n hx hb dX12_init_125 rfl (lv_at hl 0 rfl) ?_
  refine lv_iconst (v := 4) hx hb dX12_init_126 (by decide) ?_
  refine va_newa (atype := .int) (a0 := (4, .inl (fun _ => 0))) (N' := 4) (ty := .int) hx hb (hts (.arrayClass .int) (zt_t1 58 rfl rfl)) rfl hK hP hD hS hA (fun _ => rfl) (by decide +kernel) (by decide +kernel) (by decide +kernel) (Nat.le_of_ble_eq_true rfl) (Nat.le_of_ble_eq_true rfl) dX12_init_127 (fun q_15 cA_15 H hK hP hD hS => ?_)
  have hA1 := hK.2 1 _ rfl
  have hK := hK.sub (tys' := [(cA43, .int)]) [0] rfl
  obtain ⟨K, V, hC, hP, hD, hAr, hle, hq, hm⟩ := cnewM (X := [(h0, .inr (11, [.ref q_1, .ref q_2, .ref q_3, .ref q43, .ref q_4, .ref q_5, .int 0, .int 0, .ref q_6, .int 0, .ref q_7, .int 0, .int 0, .ref q_8, .int 0, .ref q_9, .int 0, .int 0, .ref q_10, .ref q_11, .int 0, .ref q_12, .ref q_13, .int (-1), .int 0, .int 0, .ref q_14, .int 0, .int 0, .null, .null, .null, .null, .null, .int 0, .int 0])), (q43, .inl (cA43, 6, .inl (fun _ => 0)))]) (k := 69) hC hm (by decide) (by decide) rfl (by decide) rfl hP hD hAr hA1
  have hz := hz.add hle hq
  clear hle hq
  refine W.widen (k := 16) (n := 572496) (by omega) (by omega) ?_
  refine va_putF (D := D) (ci := 11) (v := .ref q_15) (ty := .array .int) (C := RX12) (T := TX12) (N := 36) hx hb hts in_11 tyX12 tyX12_ok nmX12 hown hK hP hD hS 0 rfl rfl 29 (by decide) (hts (.fieldLink RX12 63 "CardTablesModel" "tried" "[I") (zt_t5 86 rfl rfl)) (fun _ h9 => h9) rfl hin rfl (by decide +kernel) rfl rfl (Nat.le_of_ble_eq_true rfl) dX12_init_129 (fun H locs hP hD hS => ?_)
  have hP : va_P D vwCl ([(h0, .inr (11, [.ref q_1, .ref q_2, .ref q_3, .ref q43, .ref q_4, .ref q_5, .int 0, .int 0, .ref q_6, .int 0, .ref q_7, .int 0, .int 0, .ref q_8, .int 0, .ref q_9, .int 0, .int 0, .ref q_10, .ref q_11, .int 0, .ref q_12, .ref q_13, .int (-1), .int 0, .int 0, .ref q_14, .int 0, .int 0, .ref q_15, .null, .null, .null, .null, .int 0, .int 0])), (q43, .inl (cA43, 6, .inl (fun _ => 0)))] ++ zW K V) H := hP
  have hD : va_D A ([(h0, .inr (11, [.ref q_1, .ref q_2, .ref q_3, .ref q43, .ref q_4, .ref q_5, .int 0, .int 0, .ref q_6, .int 0, .ref q_7, .int 0, .int 0, .ref q_8, .int 0, .ref q_9, .int 0, .int 0, .ref q_10, .ref q_11, .int 0, .ref q_12, .ref q_13, .int (-1), .int 0, .int 0, .ref q_14, .int 0, .int 0, .ref q_15, .null, .null, .null, .null, .int 0, .int 0])), (q43, .inl (cA43, 6, .inl (fun _ => 0)))] ++ zW K V) := hD
  refine lv_aload_n hx hb dX12_init_132 rfl (lv_at hl 0 rfl) ?_
  refine lv_iconst (v := 4) hx hb dX12_init_133 (by decide) ?_
  refine va_newa (atype := .int) (a0 := (4, .inl (fun _ => 0))) (N' := 4) (ty := .int) hx hb (hts (.arrayClass .int) (zt_t1 58 rfl rfl)) rfl hK hP hD hS hA (fun _ => rfl) (by decide +kernel) (by decide +kernel) (by decide +kernel) (Nat.le_of_ble_eq_true rfl) (Nat.le_of_ble_eq_true rfl) dX12_init_134 (fun q_16 cA_16 H hK hP hD hS => ?_)
  have hA1 := hK.2 1 _ rfl
  have hK := hK.sub (tys' := [(cA43, .int)]) [0] rfl
  obtain ⟨K, V, hC, hP, hD, hAr, hle, hq, hm⟩ := cnewM (X := [(h0, .inr (11, [.ref q_1, .ref q_2, .ref q_3, .ref q43, .ref q_4, .ref q_5, .int 0, .int 0, .ref q_6, .int 0, .ref q_7, .int 0, .int 0, .ref q_8, .int 0, .ref q_9, .int 0, .int 0, .ref q_10, .ref q_11, .int 0, .ref q_12, .ref q_13, .int (-1), .int 0, .int 0, .ref q_14, .int 0, .int 0, .ref q_15, .null, .null, .null, .null, .int 0, .int 0])), (q43, .inl (cA43, 6, .inl (fun _ => 0)))]) (k := 70) hC hm (by decide) (by decide) rfl (by decide) rfl hP hD hAr hA1
  have hz := hz.add hle hq
  clear hle hq
  refine W.widen (k := 17) (n := 572500) (by omega) (by omega) ?_
  refine va_putF (D := D) (ci := 11) (v := .ref q_16) (ty := .array .int) (C := RX12) (T := TX12) (N := 36) hx hb hts in_11 tyX12 tyX12_ok nmX12 hown hK hP hD hS 0 rfl rfl 30 (by decide) (hts (.fieldLink RX12 66 "CardTablesModel" "picked" "[I") (zt_t5 87 rfl rfl)) (fun _ h9 => h9) rfl hin rfl (by decide +kernel) rfl rfl (Nat.le_of_ble_eq_true rfl) dX12_init_136 (fun H locs hP hD hS => ?_)
  have hP : va_P D vwCl ([(h0, .inr (11, [.ref q_1, .ref q_2, .ref q_3, .ref q43, .ref q_4, .ref q_5, .int 0, .int 0, .ref q_6, .int 0, .ref q_7, .int 0, .int 0, .ref q_8, .int 0, .ref q_9, .int 0, .int 0, .ref q_10, .ref q_11, .int 0, .ref q_12, .ref q_13, .int (-1), .int 0, .int 0, .ref q_14, .int 0, .int 0, .ref q_15, .ref q_16, .null, .null, .null, .int 0, .int 0])), (q43, .inl (cA43, 6, .inl (fun _ => 0)))] ++ zW K V) H := hP
  have hD : va_D A ([(h0, .inr (11, [.ref q_1, .ref q_2, .ref q_3, .ref q43, .ref q_4, .ref q_5, .int 0, .int 0, .ref q_6, .int 0, .ref q_7, .int 0, .int 0, .ref q_8, .int 0, .ref q_9, .int 0, .int 0, .ref q_10, .ref q_11, .int 0, .ref q_12, .ref q_13, .int (-1), .int 0, .int 0, .ref q_14, .int 0, .int 0, .ref q_15, .ref q_16, .null, .null, .null, .int 0, .int 0])), (q43, .inl (cA43, 6, .inl (fun _ => 0)))] ++ zW K V) := hD
  refine lv_aload_n hx hb dX12_init_139 rfl (lv_at hl 0 rfl) ?_
  refine lv_iconst (v := 4) hx hb dX12_init_140 (by decide) ?_
  refine va_newa (atype := .boolean) (a0 := (4, .inl (fun _ => 0))) (N' := 4) (ty := .boolean) hx hb (hts (.arrayClass .boolean) (zt_t1 59 rfl rfl)) rfl hK hP hD hS hA (fun _ => rfl) (by decide +kernel) (by decide +kernel) (by decide +kernel) (Nat.le_of_ble_eq_true rfl) (Nat.le_of_ble_eq_true rfl) dX12_init_141 (fun q_17 cA_17 H hK hP hD hS => ?_)
  have hA1 := hK.2 1 _ rfl
  have hK := hK.sub (tys' := [(cA43, .int)]) [0] rfl
  obtain ⟨K, V, hC, hP, hD, hAr, hle, hq, hm⟩ := cnewM (X := [(h0, .inr (11, [.ref q_1, .ref q_2, .ref q_3, .ref q43, .ref q_4, .ref q_5, .int 0, .int 0, .ref q_6, .int 0, .ref q_7, .int 0, .int 0, .ref q_8, .int 0, .ref q_9, .int 0, .int 0, .ref q_10, .ref q_11, .int 0, .ref q_12, .ref q_13, .int (-1), .int 0, .int 0, .ref q_14, .int 0, .int 0, .ref q_15, .ref q_16, .null, .null, .null, .int 0, .int 0])), (q43, .inl (cA43, 6, .inl (fun _ => 0)))]) (k := 71) hC hm (by decide) (by decide) rfl (by decide) rfl hP hD hAr hA1
  have hz := hz.add hle hq
  clear hle hq
  refine W.widen (k := 18) (n := 572504) (by omega) (by omega) ?_
  refine va_putF (D := D) (ci := 11) (v := .ref q_17) (ty := .array .boolean) (C := RX12) (T := TX12) (N := 36) hx hb hts in_11 tyX12 tyX12_ok nmX12 hown hK hP hD hS 0 rfl rfl 31 (by decide) (hts (.fieldLink RX12 69 "CardTablesModel" "has" "[Z") (zt_t5 88 rfl rfl)) (fun _ h9 => h9) rfl hin rfl (by decide +kernel) rfl rfl (Nat.le_of_ble_eq_true rfl) dX12_init_143 (fun H locs hP hD hS => ?_)
  have hP : va_P D vwCl ([(h0, .inr (11, [.ref q_1, .ref q_2, .ref q_3, .ref q43, .ref q_4, .ref q_5, .int 0, .int 0, .ref q_6, .int 0, .ref q_7, .int 0, .int 0, .ref q_8, .int 0, .ref q_9, .int 0, .int 0, .ref q_10, .ref q_11, .int 0, .ref q_12, .ref q_13, .int (-1), .int 0, .int 0, .ref q_14, .int 0, .int 0, .ref q_15, .ref q_16, .ref q_17, .null, .null, .int 0, .int 0])), (q43, .inl (cA43, 6, .inl (fun _ => 0)))] ++ zW K V) H := hP
  have hD : va_D A ([(h0, .inr (11, [.ref q_1, .ref q_2, .ref q_3, .ref q43, .ref q_4, .ref q_5, .int 0, .int 0, .ref q_6, .int 0, .ref q_7, .int 0, .int 0, .ref q_8, .int 0, .ref q_9, .int 0, .int 0, .ref q_10, .ref q_11, .int 0, .ref q_12, .ref q_13, .int (-1), .int 0, .int 0, .ref q_14, .int 0, .int 0, .ref q_15, .ref q_16, .ref q_17, .null, .null, .int 0, .int 0])), (q43, .inl (cA43, 6, .inl (fun _ => 0)))] ++ zW K V) := hD
  refine lv_aload_n hx hb dX12_init_146 rfl (lv_at hl 0 rfl) ?_
  refine lv_iconst (v := 4) hx hb dX12_init_147 (by decide) ?_
  refine va_newa (atype := .int) (a0 := (4, .inl (fun _ => 0))) (N' := 4) (ty := .int) hx hb (hts (.arrayClass .int) (zt_t1 58 rfl rfl)) rfl hK hP hD hS hA (fun _ => rfl) (by decide +kernel) (by decide +kernel) (by decide +kernel) (Nat.le_of_ble_eq_true rfl) (Nat.le_of_ble_eq_true rfl) dX12_init_148 (fun q_18 cA_18 H hK hP hD hS => ?_)
  have hA1 := hK.2 1 _ rfl
  have hK := hK.sub (tys' := [(cA43, .int)]) [0] rfl
  obtain ⟨K, V, hC, hP, hD, hAr, hle, hq, hm⟩ := cnewM (X := [(h0, .inr (11, [.ref q_1, .ref q_2, .ref q_3, .ref q43, .ref q_4, .ref q_5, .int 0, .int 0, .ref q_6, .int 0, .ref q_7, .int 0, .int 0, .ref q_8, .int 0, .ref q_9, .int 0, .int 0, .ref q_10, .ref q_11, .int 0, .ref q_12, .ref q_13, .int (-1), .int 0, .int 0, .ref q_14, .int 0, .int 0, .ref q_15, .ref q_16, .ref q_17, .null, .null, .int 0, .int 0])), (q43, .inl (cA43, 6, .inl (fun _ => 0)))]) (k := 72) hC hm (by decide) (by decide) rfl (by decide) rfl hP hD hAr hA1
  have hz := hz.add hle hq
  clear hle hq
  refine W.widen (k := 19) (n := 572508) (by omega) (by omega) ?_
  refine va_putF (D := D) (ci := 11) (v := .ref q_18) (ty := .array .int) (C := RX12) (T := TX12) (N := 36) hx hb hts in_11 tyX12 tyX12_ok nmX12 hown hK hP hD hS 0 rfl rfl 32 (by decide) (hts (.fieldLink RX12 72 "CardTablesModel" "best" "[I") (zt_t5 89 rfl rfl)) (fun _ h9 => h9) rfl hin rfl (by decide +kernel) rfl rfl (Nat.le_of_ble_eq_true rfl) dX12_init_150 (fun H locs hP hD hS => ?_)
  have hP : va_P D vwCl ([(h0, .inr (11, [.ref q_1, .ref q_2, .ref q_3, .ref q43, .ref q_4, .ref q_5, .int 0, .int 0, .ref q_6, .int 0, .ref q_7, .int 0, .int 0, .ref q_8, .int 0, .ref q_9, .int 0, .int 0, .ref q_10, .ref q_11, .int 0, .ref q_12, .ref q_13, .int (-1), .int 0, .int 0, .ref q_14, .int 0, .int 0, .ref q_15, .ref q_16, .ref q_17, .ref q_18, .null, .int 0, .int 0])), (q43, .inl (cA43, 6, .inl (fun _ => 0)))] ++ zW K V) H := hP
  have hD : va_D A ([(h0, .inr (11, [.ref q_1, .ref q_2, .ref q_3, .ref q43, .ref q_4, .ref q_5, .int 0, .int 0, .ref q_6, .int 0, .ref q_7, .int 0, .int 0, .ref q_8, .int 0, .ref q_9, .int 0, .int 0, .ref q_10, .ref q_11, .int 0, .ref q_12, .ref q_13, .int (-1), .int 0, .int 0, .ref q_14, .int 0, .int 0, .ref q_15, .ref q_16, .ref q_17, .ref q_18, .null, .int 0, .int 0])), (q43, .inl (cA43, 6, .inl (fun _ => 0)))] ++ zW K V) := hD
  refine lv_aload_n hx hb dX12_init_153 rfl (lv_at hl 0 rfl) ?_
  refine lv_iconst (v := 4) hx hb dX12_init_154 (by decide) ?_
  refine va_newa (atype := .int) (a0 := (4, .inl (fun _ => 0))) (N' := 4) (ty := .int) hx hb (hts (.arrayClass .int) (zt_t1 58 rfl rfl)) rfl hK hP hD hS hA (fun _ => rfl) (by decide +kernel) (by decide +kernel) (by decide +kernel) (Nat.le_of_ble_eq_true rfl) (Nat.le_of_ble_eq_true rfl) dX12_init_155 (fun q_19 cA_19 H hK hP hD hS => ?_)
  have hA1 := hK.2 1 _ rfl
  have hK := hK.sub (tys' := [(cA43, .int)]) [0] rfl
  obtain ⟨K, V, hC, hP, hD, hAr, hle, hq, hm⟩ := cnewM (X := [(h0, .inr (11, [.ref q_1, .ref q_2, .ref q_3, .ref q43, .ref q_4, .ref q_5, .int 0, .int 0, .ref q_6, .int 0, .ref q_7, .int 0, .int 0, .ref q_8, .int 0, .ref q_9, .int 0, .int 0, .ref q_10, .ref q_11, .int 0, .ref q_12, .ref q_13, .int (-1), .int 0, .int 0, .ref q_14, .int 0, .int 0, .ref q_15, .ref q_16, .ref q_17, .ref q_18, .null, .int 0, .int 0])), (q43, .inl (cA43, 6, .inl (fun _ => 0)))]) (k := 73) hC hm (by decide) (by decide) rfl (by decide) rfl hP hD hAr hA1
  have hz := hz.add hle hq
  clear hle hq
  refine W.widen (k := 20) (n := 572512) (by omega) (by omega) ?_
  refine va_putF (D := D) (ci := 11) (v := .ref q_19) (ty := .array .int) (C := RX12) (T := TX12) (N := 36) hx hb hts in_11 tyX12 tyX12_ok nmX12 hown hK hP hD hS 0 rfl rfl 33 (by decide) (hts (.fieldLink RX12 75 "CardTablesModel" "kept2" "[I") (zt_t5 90 rfl rfl)) (fun _ h9 => h9) rfl hin rfl (by decide +kernel) rfl rfl (Nat.le_of_ble_eq_true rfl) dX12_init_157 (fun H locs hP hD hS => ?_)
  have hP : va_P D vwCl ([(h0, .inr (11, [.ref q_1, .ref q_2, .ref q_3, .ref q43, .ref q_4, .ref q_5, .int 0, .int 0, .ref q_6, .int 0, .ref q_7, .int 0, .int 0, .ref q_8, .int 0, .ref q_9, .int 0, .int 0, .ref q_10, .ref q_11, .int 0, .ref q_12, .ref q_13, .int (-1), .int 0, .int 0, .ref q_14, .int 0, .int 0, .ref q_15, .ref q_16, .ref q_17, .ref q_18, .ref q_19, .int 0, .int 0])), (q43, .inl (cA43, 6, .inl (fun _ => 0)))] ++ zW K V) H := hP
  have hD : va_D A ([(h0, .inr (11, [.ref q_1, .ref q_2, .ref q_3, .ref q43, .ref q_4, .ref q_5, .int 0, .int 0, .ref q_6, .int 0, .ref q_7, .int 0, .int 0, .ref q_8, .int 0, .ref q_9, .int 0, .int 0, .ref q_10, .ref q_11, .int 0, .ref q_12, .ref q_13, .int (-1), .int 0, .int 0, .ref q_14, .int 0, .int 0, .ref q_15, .ref q_16, .ref q_17, .ref q_18, .ref q_19, .int 0, .int 0])), (q43, .inl (cA43, 6, .inl (fun _ => 0)))] ++ zW K V) := hD
  refine lv_iconst (v := 0) hx hb dX12_init_160 (by decide) ?_
  refine lv_istore_n (lv' := [(1, .int 0), (0, .ref h0)]) hx hb dX12_init_161 rfl hl (by decide) rfl (fun ls hl => ?_)
  refine lv_iload_n hx hb dX12_init_162 rfl (lv_at hl 0 rfl) ?_
  refine lv_bipush (v := 6) hx hb dX12_init_163 (by decide) ?_
  refine lv_icmp_ge (tgt := 181) hx hb dX12_init_165 (by decide) (fun c_20 => ?_) (fun c_20 => ?_)
  · exact absurd c_20 (by decide +kernel)
  · skip
    refine lv_aload_n hx hb dX12_init_168 rfl (lv_at hl 1 rfl) ?_
    refine va_get (D := D) (ci := 11) (v := .ref q43) (C := RX12) (T := TX12) (N := 36) hx hb hts in_11 hown hK hP 0 rfl rfl 3 (by decide) (hts (.fieldLink RX12 21 "CardTablesModel" "gameKind" "[I") (zt_t5 60 rfl rfl)) (fun _ h9 => h9) rfl dX12_init_169 ?_
    refine lv_iload_n hx hb dX12_init_172 rfl (lv_at hl 0 rfl) ?_
    refine lv_iconst (v := (-1)) hx hb dX12_init_173 (by decide) ?_
    refine va_iast hx hb hK hP hD hS 1 0 rfl rfl (by unfold vp_in; decide +kernel) dX12_init_174 (fun H locs hP hD hS => ?_)
    have hP : va_P D vwCl ([(h0, .inr (11, [.ref q_1, .ref q_2, .ref q_3, .ref q43, .ref q_4, .ref q_5, .int 0, .int 0, .ref q_6, .int 0, .ref q_7, .int 0, .int 0, .ref q_8, .int 0, .ref q_9, .int 0, .int 0, .ref q_10, .ref q_11, .int 0, .ref q_12, .ref q_13, .int (-1), .int 0, .int 0, .ref q_14, .int 0, .int 0, .ref q_15, .ref q_16, .ref q_17, .ref q_18, .ref q_19, .int 0, .int 0])), (q43, .inl (cA43, 6, .inl (upd (fun _ => 0) 0 (-1))))] ++ zW K V) H := hP
    have hD : va_D A ([(h0, .inr (11, [.ref q_1, .ref q_2, .ref q_3, .ref q43, .ref q_4, .ref q_5, .int 0, .int 0, .ref q_6, .int 0, .ref q_7, .int 0, .int 0, .ref q_8, .int 0, .ref q_9, .int 0, .int 0, .ref q_10, .ref q_11, .int 0, .ref q_12, .ref q_13, .int (-1), .int 0, .int 0, .ref q_14, .int 0, .int 0, .ref q_15, .ref q_16, .ref q_17, .ref q_18, .ref q_19, .int 0, .int 0])), (q43, .inl (cA43, 6, .inl (upd (fun _ => 0) 0 (-1))))] ++ zW K V) := hD
    refine lv_iinc (v := 1) (lv' := [(1, .int 1), (0, .ref h0)]) hx hb dX12_init_175 hl (k := 0) rfl (by decide) (by decide) rfl (fun ls hl => ?_)
    refine lv_goto (tgt := 162) hx hb dX12_init_178 (by decide) ?_
    refine lv_iload_n hx hb dX12_init_162 rfl (lv_at hl 0 rfl) ?_
    refine lv_bipush (v := 6) hx hb dX12_init_163 (by decide) ?_
    refine lv_icmp_ge (tgt := 181) hx hb dX12_init_165 (by decide) (fun c_22 => ?_) (fun c_22 => ?_)
    · exact absurd c_22 (by decide +kernel)
    · skip
      refine lv_aload_n hx hb dX12_init_168 rfl (lv_at hl 1 rfl) ?_
      refine va_get (D := D) (ci := 11) (v := .ref q43) (C := RX12) (T := TX12) (N := 36) hx hb hts in_11 hown hK hP 0 rfl rfl 3 (by decide) (hts (.fieldLink RX12 21 "CardTablesModel" "gameKind" "[I") (zt_t5 60 rfl rfl)) (fun _ h9 => h9) rfl dX12_init_169 ?_
      refine lv_iload_n hx hb dX12_init_172 rfl (lv_at hl 0 rfl) ?_
      refine lv_iconst (v := (-1)) hx hb dX12_init_173 (by decide) ?_
      refine va_iast hx hb hK hP hD hS 1 0 rfl rfl (by unfold vp_in; decide +kernel) dX12_init_174 (fun H locs hP hD hS => ?_)
      have hP : va_P D vwCl ([(h0, .inr (11, [.ref q_1, .ref q_2, .ref q_3, .ref q43, .ref q_4, .ref q_5, .int 0, .int 0, .ref q_6, .int 0, .ref q_7, .int 0, .int 0, .ref q_8, .int 0, .ref q_9, .int 0, .int 0, .ref q_10, .ref q_11, .int 0, .ref q_12, .ref q_13, .int (-1), .int 0, .int 0, .ref q_14, .int 0, .int 0, .ref q_15, .ref q_16, .ref q_17, .ref q_18, .ref q_19, .int 0, .int 0])), (q43, .inl (cA43, 6, .inl (upd (upd (fun _ => 0) 0 (-1)) 1 (-1))))] ++ zW K V) H := hP
      have hD : va_D A ([(h0, .inr (11, [.ref q_1, .ref q_2, .ref q_3, .ref q43, .ref q_4, .ref q_5, .int 0, .int 0, .ref q_6, .int 0, .ref q_7, .int 0, .int 0, .ref q_8, .int 0, .ref q_9, .int 0, .int 0, .ref q_10, .ref q_11, .int 0, .ref q_12, .ref q_13, .int (-1), .int 0, .int 0, .ref q_14, .int 0, .int 0, .ref q_15, .ref q_16, .ref q_17, .ref q_18, .ref q_19, .int 0, .int 0])), (q43, .inl (cA43, 6, .inl (upd (upd (fun _ => 0) 0 (-1)) 1 (-1))))] ++ zW K V) := hD
      refine lv_iinc (v := 2) (lv' := [(1, .int 2), (0, .ref h0)]) hx hb dX12_init_175 hl (k := 0) rfl (by decide) (by decide) rfl (fun ls hl => ?_)
      refine lv_goto (tgt := 162) hx hb dX12_init_178 (by decide) ?_
      refine lv_iload_n hx hb dX12_init_162 rfl (lv_at hl 0 rfl) ?_
      refine lv_bipush (v := 6) hx hb dX12_init_163 (by decide) ?_
      refine lv_icmp_ge (tgt := 181) hx hb dX12_init_165 (by decide) (fun c_24 => ?_) (fun c_24 => ?_)
      · exact absurd c_24 (by decide +kernel)
      · skip
        refine lv_aload_n hx hb dX12_init_168 rfl (lv_at hl 1 rfl) ?_
        refine va_get (D := D) (ci := 11) (v := .ref q43) (C := RX12) (T := TX12) (N := 36) hx hb hts in_11 hown hK hP 0 rfl rfl 3 (by decide) (hts (.fieldLink RX12 21 "CardTablesModel" "gameKind" "[I") (zt_t5 60 rfl rfl)) (fun _ h9 => h9) rfl dX12_init_169 ?_
        refine lv_iload_n hx hb dX12_init_172 rfl (lv_at hl 0 rfl) ?_
        refine lv_iconst (v := (-1)) hx hb dX12_init_173 (by decide) ?_
        refine va_iast hx hb hK hP hD hS 1 0 rfl rfl (by unfold vp_in; decide +kernel) dX12_init_174 (fun H locs hP hD hS => ?_)
        have hP : va_P D vwCl ([(h0, .inr (11, [.ref q_1, .ref q_2, .ref q_3, .ref q43, .ref q_4, .ref q_5, .int 0, .int 0, .ref q_6, .int 0, .ref q_7, .int 0, .int 0, .ref q_8, .int 0, .ref q_9, .int 0, .int 0, .ref q_10, .ref q_11, .int 0, .ref q_12, .ref q_13, .int (-1), .int 0, .int 0, .ref q_14, .int 0, .int 0, .ref q_15, .ref q_16, .ref q_17, .ref q_18, .ref q_19, .int 0, .int 0])), (q43, .inl (cA43, 6, .inl (upd (upd (upd (fun _ => 0) 0 (-1)) 1 (-1)) 2 (-1))))] ++ zW K V) H := hP
        have hD : va_D A ([(h0, .inr (11, [.ref q_1, .ref q_2, .ref q_3, .ref q43, .ref q_4, .ref q_5, .int 0, .int 0, .ref q_6, .int 0, .ref q_7, .int 0, .int 0, .ref q_8, .int 0, .ref q_9, .int 0, .int 0, .ref q_10, .ref q_11, .int 0, .ref q_12, .ref q_13, .int (-1), .int 0, .int 0, .ref q_14, .int 0, .int 0, .ref q_15, .ref q_16, .ref q_17, .ref q_18, .ref q_19, .int 0, .int 0])), (q43, .inl (cA43, 6, .inl (upd (upd (upd (fun _ => 0) 0 (-1)) 1 (-1)) 2 (-1))))] ++ zW K V) := hD
        refine lv_iinc (v := 3) (lv' := [(1, .int 3), (0, .ref h0)]) hx hb dX12_init_175 hl (k := 0) rfl (by decide) (by decide) rfl (fun ls hl => ?_)
        refine lv_goto (tgt := 162) hx hb dX12_init_178 (by decide) ?_
        refine lv_iload_n hx hb dX12_init_162 rfl (lv_at hl 0 rfl) ?_
        refine lv_bipush (v := 6) hx hb dX12_init_163 (by decide) ?_
        refine lv_icmp_ge (tgt := 181) hx hb dX12_init_165 (by decide) (fun c_26 => ?_) (fun c_26 => ?_)
        · exact absurd c_26 (by decide +kernel)
        · skip
          refine lv_aload_n hx hb dX12_init_168 rfl (lv_at hl 1 rfl) ?_
          refine va_get (D := D) (ci := 11) (v := .ref q43) (C := RX12) (T := TX12) (N := 36) hx hb hts in_11 hown hK hP 0 rfl rfl 3 (by decide) (hts (.fieldLink RX12 21 "CardTablesModel" "gameKind" "[I") (zt_t5 60 rfl rfl)) (fun _ h9 => h9) rfl dX12_init_169 ?_
          refine lv_iload_n hx hb dX12_init_172 rfl (lv_at hl 0 rfl) ?_
          refine lv_iconst (v := (-1)) hx hb dX12_init_173 (by decide) ?_
          refine va_iast hx hb hK hP hD hS 1 0 rfl rfl (by unfold vp_in; decide +kernel) dX12_init_174 (fun H locs hP hD hS => ?_)
          have hP : va_P D vwCl ([(h0, .inr (11, [.ref q_1, .ref q_2, .ref q_3, .ref q43, .ref q_4, .ref q_5, .int 0, .int 0, .ref q_6, .int 0, .ref q_7, .int 0, .int 0, .ref q_8, .int 0, .ref q_9, .int 0, .int 0, .ref q_10, .ref q_11, .int 0, .ref q_12, .ref q_13, .int (-1), .int 0, .int 0, .ref q_14, .int 0, .int 0, .ref q_15, .ref q_16, .ref q_17, .ref q_18, .ref q_19, .int 0, .int 0])), (q43, .inl (cA43, 6, .inl (upd (upd (upd (upd (fun _ => 0) 0 (-1)) 1 (-1)) 2 (-1)) 3 (-1))))] ++ zW K V) H := hP
          have hD : va_D A ([(h0, .inr (11, [.ref q_1, .ref q_2, .ref q_3, .ref q43, .ref q_4, .ref q_5, .int 0, .int 0, .ref q_6, .int 0, .ref q_7, .int 0, .int 0, .ref q_8, .int 0, .ref q_9, .int 0, .int 0, .ref q_10, .ref q_11, .int 0, .ref q_12, .ref q_13, .int (-1), .int 0, .int 0, .ref q_14, .int 0, .int 0, .ref q_15, .ref q_16, .ref q_17, .ref q_18, .ref q_19, .int 0, .int 0])), (q43, .inl (cA43, 6, .inl (upd (upd (upd (upd (fun _ => 0) 0 (-1)) 1 (-1)) 2 (-1)) 3 (-1))))] ++ zW K V) := hD
          refine lv_iinc (v := 4) (lv' := [(1, .int 4), (0, .ref h0)]) hx hb dX12_init_175 hl (k := 0) rfl (by decide) (by decide) rfl (fun ls hl => ?_)
          refine lv_goto (tgt := 162) hx hb dX12_init_178 (by decide) ?_
          refine lv_iload_n hx hb dX12_init_162 rfl (lv_at hl 0 rfl) ?_
          refine lv_bipush (v := 6) hx hb dX12_init_163 (by decide) ?_
          refine lv_icmp_ge (tgt := 181) hx hb dX12_init_165 (by decide) (fun c_28 => ?_) (fun c_28 => ?_)
          · exact absurd c_28 (by decide +kernel)
          · skip
            refine lv_aload_n hx hb dX12_init_168 rfl (lv_at hl 1 rfl) ?_
            refine va_get (D := D) (ci := 11) (v := .ref q43) (C := RX12) (T := TX12) (N := 36) hx hb hts in_11 hown hK hP 0 rfl rfl 3 (by decide) (hts (.fieldLink RX12 21 "CardTablesModel" "gameKind" "[I") (zt_t5 60 rfl rfl)) (fun _ h9 => h9) rfl dX12_init_169 ?_
            refine lv_iload_n hx hb dX12_init_172 rfl (lv_at hl 0 rfl) ?_
            refine lv_iconst (v := (-1)) hx hb dX12_init_173 (by decide) ?_
            refine va_iast hx hb hK hP hD hS 1 0 rfl rfl (by unfold vp_in; decide +kernel) dX12_init_174 (fun H locs hP hD hS => ?_)
            have hP : va_P D vwCl ([(h0, .inr (11, [.ref q_1, .ref q_2, .ref q_3, .ref q43, .ref q_4, .ref q_5, .int 0, .int 0, .ref q_6, .int 0, .ref q_7, .int 0, .int 0, .ref q_8, .int 0, .ref q_9, .int 0, .int 0, .ref q_10, .ref q_11, .int 0, .ref q_12, .ref q_13, .int (-1), .int 0, .int 0, .ref q_14, .int 0, .int 0, .ref q_15, .ref q_16, .ref q_17, .ref q_18, .ref q_19, .int 0, .int 0])), (q43, .inl (cA43, 6, .inl (upd (upd (upd (upd (upd (fun _ => 0) 0 (-1)) 1 (-1)) 2 (-1)) 3 (-1)) 4 (-1))))] ++ zW K V) H := hP
            have hD : va_D A ([(h0, .inr (11, [.ref q_1, .ref q_2, .ref q_3, .ref q43, .ref q_4, .ref q_5, .int 0, .int 0, .ref q_6, .int 0, .ref q_7, .int 0, .int 0, .ref q_8, .int 0, .ref q_9, .int 0, .int 0, .ref q_10, .ref q_11, .int 0, .ref q_12, .ref q_13, .int (-1), .int 0, .int 0, .ref q_14, .int 0, .int 0, .ref q_15, .ref q_16, .ref q_17, .ref q_18, .ref q_19, .int 0, .int 0])), (q43, .inl (cA43, 6, .inl (upd (upd (upd (upd (upd (fun _ => 0) 0 (-1)) 1 (-1)) 2 (-1)) 3 (-1)) 4 (-1))))] ++ zW K V) := hD
            refine lv_iinc (v := 5) (lv' := [(1, .int 5), (0, .ref h0)]) hx hb dX12_init_175 hl (k := 0) rfl (by decide) (by decide) rfl (fun ls hl => ?_)
            refine lv_goto (tgt := 162) hx hb dX12_init_178 (by decide) ?_
            refine lv_iload_n hx hb dX12_init_162 rfl (lv_at hl 0 rfl) ?_
            refine lv_bipush (v := 6) hx hb dX12_init_163 (by decide) ?_
            refine lv_icmp_ge (tgt := 181) hx hb dX12_init_165 (by decide) (fun c_30 => ?_) (fun c_30 => ?_)
            · exact absurd c_30 (by decide +kernel)
            · skip
              refine lv_aload_n hx hb dX12_init_168 rfl (lv_at hl 1 rfl) ?_
              refine va_get (D := D) (ci := 11) (v := .ref q43) (C := RX12) (T := TX12) (N := 36) hx hb hts in_11 hown hK hP 0 rfl rfl 3 (by decide) (hts (.fieldLink RX12 21 "CardTablesModel" "gameKind" "[I") (zt_t5 60 rfl rfl)) (fun _ h9 => h9) rfl dX12_init_169 ?_
              refine lv_iload_n hx hb dX12_init_172 rfl (lv_at hl 0 rfl) ?_
              refine lv_iconst (v := (-1)) hx hb dX12_init_173 (by decide) ?_
              refine va_iast hx hb hK hP hD hS 1 0 rfl rfl (by unfold vp_in; decide +kernel) dX12_init_174 (fun H locs hP hD hS => ?_)
              have hP : va_P D vwCl ([(h0, .inr (11, [.ref q_1, .ref q_2, .ref q_3, .ref q43, .ref q_4, .ref q_5, .int 0, .int 0, .ref q_6, .int 0, .ref q_7, .int 0, .int 0, .ref q_8, .int 0, .ref q_9, .int 0, .int 0, .ref q_10, .ref q_11, .int 0, .ref q_12, .ref q_13, .int (-1), .int 0, .int 0, .ref q_14, .int 0, .int 0, .ref q_15, .ref q_16, .ref q_17, .ref q_18, .ref q_19, .int 0, .int 0])), (q43, .inl (cA43, 6, .inl (upd (upd (upd (upd (upd (upd (fun _ => 0) 0 (-1)) 1 (-1)) 2 (-1)) 3 (-1)) 4 (-1)) 5 (-1))))] ++ zW K V) H := hP
              have hD : va_D A ([(h0, .inr (11, [.ref q_1, .ref q_2, .ref q_3, .ref q43, .ref q_4, .ref q_5, .int 0, .int 0, .ref q_6, .int 0, .ref q_7, .int 0, .int 0, .ref q_8, .int 0, .ref q_9, .int 0, .int 0, .ref q_10, .ref q_11, .int 0, .ref q_12, .ref q_13, .int (-1), .int 0, .int 0, .ref q_14, .int 0, .int 0, .ref q_15, .ref q_16, .ref q_17, .ref q_18, .ref q_19, .int 0, .int 0])), (q43, .inl (cA43, 6, .inl (upd (upd (upd (upd (upd (upd (fun _ => 0) 0 (-1)) 1 (-1)) 2 (-1)) 3 (-1)) 4 (-1)) 5 (-1))))] ++ zW K V) := hD
              refine lv_iinc (v := 6) (lv' := [(1, .int 6), (0, .ref h0)]) hx hb dX12_init_175 hl (k := 0) rfl (by decide) (by decide) rfl (fun ls hl => ?_)
              refine lv_goto (tgt := 162) hx hb dX12_init_178 (by decide) ?_
              refine lv_iload_n hx hb dX12_init_162 rfl (lv_at hl 0 rfl) ?_
              refine lv_bipush (v := 6) hx hb dX12_init_163 (by decide) ?_
              refine lv_icmp_ge (tgt := 181) hx hb dX12_init_165 (by decide) (fun c_32 => ?_) (fun c_32 => ?_)
              · skip
                have hA1 := hK.2 0 _ rfl
                have hP := hP.swap (a := [(h0, .inr (11, [.ref q_1, .ref q_2, .ref q_3, .ref q43, .ref q_4, .ref q_5, .int 0, .int 0, .ref q_6, .int 0, .ref q_7, .int 0, .int 0, .ref q_8, .int 0, .ref q_9, .int 0, .int 0, .ref q_10, .ref q_11, .int 0, .ref q_12, .ref q_13, .int (-1), .int 0, .int 0, .ref q_14, .int 0, .int 0, .ref q_15, .ref q_16, .ref q_17, .ref q_18, .ref q_19, .int 0, .int 0]))]) (b := [(q43, .inl (cA43, 6, .inl (upd (upd (upd (upd (upd (upd (fun _ => 0) 0 (-1)) 1 (-1)) 2 (-1)) 3 (-1)) 4 (-1)) 5 (-1))))])
                have hD := hD.swap (a := [(h0, .inr (11, [.ref q_1, .ref q_2, .ref q_3, .ref q43, .ref q_4, .ref q_5, .int 0, .int 0, .ref q_6, .int 0, .ref q_7, .int 0, .int 0, .ref q_8, .int 0, .ref q_9, .int 0, .int 0, .ref q_10, .ref q_11, .int 0, .ref q_12, .ref q_13, .int (-1), .int 0, .int 0, .ref q_14, .int 0, .int 0, .ref q_15, .ref q_16, .ref q_17, .ref q_18, .ref q_19, .int 0, .int 0]))]) (b := [(q43, .inl (cA43, 6, .inl (upd (upd (upd (upd (upd (upd (fun _ => 0) 0 (-1)) 1 (-1)) 2 (-1)) 3 (-1)) 4 (-1)) 5 (-1))))])
                obtain ⟨K, V, hC, hP, hD, hAr, hle, hq, hm⟩ := cnewM (X := [(h0, .inr (11, [.ref q_1, .ref q_2, .ref q_3, .ref q43, .ref q_4, .ref q_5, .int 0, .int 0, .ref q_6, .int 0, .ref q_7, .int 0, .int 0, .ref q_8, .int 0, .ref q_9, .int 0, .int 0, .ref q_10, .ref q_11, .int 0, .ref q_12, .ref q_13, .int (-1), .int 0, .int 0, .ref q_14, .int 0, .int 0, .ref q_15, .ref q_16, .ref q_17, .ref q_18, .ref q_19, .int 0, .int 0]))]) (k := 43) hC hm (by decide) (by decide) rfl (by decide) rfl hP hD hAr hA1
                have hz := hz.add hle hq
                clear hle hq
                have hR : ∀ j k' n', zX 11 j = some (k', n') → zat K ((fun j => ([q_1, q_2, q_3, q43, q_4, q_5, 0, 0, q_6, 0, q_7, 0, 0, q_8, 0, q_9, 0, 0, q_10, q_11, 0, q_12, q_13, 0, 0, 0, q_14, 0, 0, q_15, q_16, q_17, q_18, q_19, 0, 0] : List Nat).getD j 0) j) k' n' := by
                  refine zXf (P := fun j k' n' => zat K ((fun j => ([q_1, q_2, q_3, q43, q_4, q_5, 0, 0, q_6, 0, q_7, 0, 0, q_8, 0, q_9, 0, 0, q_10, q_11, 0, q_12, q_13, 0, 0, 0, q_14, 0, 0, q_15, q_16, q_17, q_18, q_19, 0, 0] : List Nat).getD j 0) j) k' n') 11 [(11, 0, 40, 47730), (11, 1, 41, 4), (11, 2, 42, 4), (11, 3, 43, 6), (11, 4, 44, 6), (11, 5, 45, 6), (11, 8, 48, 300), (11, 10, 50, 60), (11, 13, 53, 60), (11, 15, 55, 4), (11, 18, 58, 16), (11, 19, 59, 4), (11, 21, 61, 262144), (11, 22, 62, 262144), (11, 26, 66, 4), (11, 29, 69, 4), (11, 30, 70, 4), (11, 31, 71, 4), (11, 32, 72, 4), (11, 33, 73, 4)] (by decide) (fun q hq => ?_)
                  simp only [List.mem_cons, List.not_mem_nil, or_false] at hq
                  rcases hq with rfl | rfl | rfl | rfl | rfl | rfl | rfl | rfl | rfl | rfl | rfl | rfl | rfl | rfl | rfl | rfl | rfl | rfl | rfl | rfl
                  · exact hz.get 19 rfl
                  · exact hz.get 18 rfl
                  · exact hz.get 17 rfl
                  · exact hz.get 0 rfl
                  · exact hz.get 16 rfl
                  · exact hz.get 15 rfl
                  · exact hz.get 14 rfl
                  · exact hz.get 13 rfl
                  · exact hz.get 12 rfl
                  · exact hz.get 11 rfl
                  · exact hz.get 10 rfl
                  · exact hz.get 9 rfl
                  · exact hz.get 8 rfl
                  · exact hz.get 7 rfl
                  · exact hz.get 6 rfl
                  · exact hz.get 5 rfl
                  · exact hz.get 4 rfl
                  · exact hz.get 3 rfl
                  · exact hz.get 2 rfl
                  · exact hz.get 1 rfl
                obtain ⟨K, hM, hP, hAr, hq, hall⟩ := cpushM hC hm hP hD (fun j => ([q_1, q_2, q_3, q43, q_4, q_5, 0, 0, q_6, 0, q_7, 0, 0, q_8, 0, q_9, 0, 0, q_10, q_11, 0, q_12, q_13, 0, 0, 0, q_14, 0, 0, q_15, q_16, q_17, q_18, q_19, 0, 0] : List Nat).getD j 0) mf0 (fun K' V' h1 h2 h3 => by rw [zF_11 h1, h2, h3] <;> rfl) hR hAr
                refine W.widen (k := 20) (n := 572512) (by omega) (by omega) ?_
                rw [← hAe] at hS hall
                exact W.vret hx hb hr (fun t ht hW => ⟨⟨K, rfl, ⟨hM, hq⟩, by rw [ht]; exact hP, hAr.moved hW.alike, hall⟩, hS.F ht⟩) hS.2.2 dX12_init_181 hlocks
              · exact absurd c_32 (by decide +kernel)
