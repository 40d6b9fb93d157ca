theorem mc_X1_init : zmC yX1_init cX1_init 1 0 := ⟨⟨zt_t1 5 rfl rfl, zt_t1 65 rfl rfl, by decide, by decide, by decide +kernel⟩, zt_t1 64 rfl rfl, rfl⟩
set_option maxHeartbeats 4000000 in
set_option maxRecDepth 100000 in
theorem c_Deal_init (l : Launch) (D : va_G) (h0 sz : Nat) : Met l yX1_init (zc yX1_init cX1_init 1 none) (rmc 2 8 257) (va_Pc [.ref h0] (cP D h0 sz (.inr (1, [.int 0, .int 0, .int 0, .int 0, .int 0, .int 0, .int 0, .int 0, .int 0, .int 0, .int 0, .null, .null, .null, .null, .null, .null, .null])))) (cQ D 1 h0 sz (.inr (1, [.int 0, .int 0, .int 0, .int 0, .int 0, .int 0, .int 0, .int 0, .int 0, .int 0, .int 0, .null, .null, .null, .null, .null, .null, .null]))) 8 257 (va_A [(h0, .inr (1, [.int 0, .int 0, .int 0, .int 0, .int 0, .int 0, .int 0, .int 0, .int 0, .int 0, .int 0, .null, .null, .null, .null, .null, .null, .null]))] sz) := by
  refine cin (by decide) (Nat.le_of_ble_eq_true rfl) ?_
  intro p e s m args below meth c ls A hsz hAe C hr hlocks hnm hK hE hP hD hA hS hl
  subst hsz
  have C : CallFix p m c cX1_init 1 s args zw RX1 := C
  obtain ⟨hx, hb, hml, hown, hts⟩ := id C
  have hin : meth.name = "<init>" := hnm
  obtain ⟨K, V, hC, hP, hD, hAr⟩ : ∃ (K : zK) (V : zV), zC K V ∧ va_P D vwCl ([(h0, .inr (1, [.int 0, .int 0, .int 0, .int 0, .int 0, .int 0, .int 0, .int 0, .int 0, .int 0, .int 0, .null, .null, .null, .null, .null, .null, .null]))] ++ zW K V) s.heap ∧ va_D A ([(h0, .inr (1, [.int 0, .int 0, .int 0, .int 0, .int 0, .int 0, .int 0, .int 0, .int 0, .int 0, .int 0, .null, .null, .null, .null, .null, .null, .null]))] ++ zW K V) ∧ zAr K s := ⟨kE, vE, kE_C, hP, hD, kE_Ar s⟩
  have hz : zats K [] := zats.nil
  have hl : lv_has ls 1 [(0, .ref h0)] := hl
  refine lv_aload_n hx hb dX1_init_0 rfl (lv_at hl 0 rfl) ?_
  refine W.objInit hx hb hown (hts (.methodLink RX1 3 objectInit) (zt_t1 66 rfl rfl)) (hts (.instanceMethod objectInit) (zt_t1 23 rfl rfl)) (hts (.code objectInit ⟨#[0xb1]⟩ 1 none) (zt_t1 24 rfl rfl)) rfl (by rw [hml]; exact hl.1) rfl dX1_init_1 (Nat.le_of_ble_eq_true rfl) (Nat.le_of_ble_eq_true rfl) ?_
  refine W.eq (g2 := F0 m 4 ls []) rfl ?_
  refine lv_aload_n hx hb dX1_init_4 rfl (lv_at hl 0 rfl) ?_
  refine lv_iconst (v := 2) hx hb dX1_init_5 (by decide) ?_
  refine va_newa (atype := .int) (a0 := (2, .inl (fun _ => 0))) (N' := 2) (ty := .int) hx hb (hts (.arrayClass .int) (zt_t1 58 rfl rfl)) rfl hK hP hD hS hA (fun _ => rfl) (by decide +kernel) (by decide +kernel) (by decide +kernel) (Nat.le_of_ble_eq_true rfl) (Nat.le_of_ble_eq_true rfl) dX1_init_6 (fun q_1 cA_1 H hK hP hD hS => ?_)
  have hA1 := hK.2 0 _ rfl
  have hK := hK.sub (tys' := []) [] rfl
  obtain ⟨K, V, hC, hP, hD, hAr, hle, hq⟩ := cnewE (X := [(h0, .inr (1, [.int 0, .int 0, .int 0, .int 0, .int 0, .int 0, .int 0, .int 0, .int 0, .int 0, .int 0, .null, .null, .null, .null, .null, .null, .null]))]) (k := 20) hC rfl (by decide) (fun h => by cases h) rfl hP hD hAr hA1
  have hz := hz.add hle hq
  clear hle hq
  refine W.widen (k := 1) (n := 2) (by omega) (by omega) ?_
  refine va_putF (D := D) (ci := 1) (v := .ref q_1) (ty := .array .int) (C := RX1) (T := TX1) (N := 18) hx hb hts in_1 tyX1 tyX1_ok nmX1 hown hK hP hD hS 0 rfl rfl 11 (by decide) (hts (.fieldLink RX1 9 "CardTables$Deal" "tricks" "[I") (zt_t1 104 rfl rfl)) (fun _ h9 => h9) rfl hin rfl (by decide +kernel) rfl rfl (Nat.le_of_ble_eq_true rfl) dX1_init_8 (fun H locs hP hD hS => ?_)
  have hP : va_P D vwCl ([(h0, .inr (1, [.int 0, .int 0, .int 0, .int 0, .int 0, .int 0, .int 0, .int 0, .int 0, .int 0, .int 0, .ref q_1, .null, .null, .null, .null, .null, .null]))] ++ zW K V) H := hP
  have hD : va_D A ([(h0, .inr (1, [.int 0, .int 0, .int 0, .int 0, .int 0, .int 0, .int 0, .int 0, .int 0, .int 0, .int 0, .ref q_1, .null, .null, .null, .null, .null, .null]))] ++ zW K V) := hD
  refine lv_aload_n hx hb dX1_init_11 rfl (lv_at hl 0 rfl) ?_
  refine lv_iconst (v := 2) hx hb dX1_init_12 (by decide) ?_
  refine va_newa (atype := .int) (a0 := (2, .inl (fun _ => 0))) (N' := 2) (ty := .int) hx hb (hts (.arrayClass .int) (zt_t1 58 rfl rfl)) rfl hK hP hD hS hA (fun _ => rfl) (by decide +kernel) (by decide +kernel) (by decide +kernel) (Nat.le_of_ble_eq_true rfl) (Nat.le_of_ble_eq_true rfl) dX1_init_13 (fun q_2 cA_2 H hK hP hD hS => ?_)
  have hA1 := hK.2 0 _ rfl
  have hK := hK.sub (tys' := []) [] rfl
  obtain ⟨K, V, hC, hP, hD, hAr, hle, hq⟩ := cnewE (X := [(h0, .inr (1, [.int 0, .int 0, .int 0, .int 0, .int 0, .int 0, .int 0, .int 0, .int 0, .int 0, .int 0, .ref q_1, .null, .null, .null, .null, .null, .null]))]) (k := 20) hC rfl (by decide) (fun h => by cases h) rfl hP hD hAr hA1
  have hz := hz.add hle hq
  clear hle hq
  refine W.widen (k := 2) (n := 4) (by omega) (by omega) ?_
  refine va_putF (D := D) (ci := 1) (v := .ref q_2) (ty := .array .int) (C := RX1) (T := TX1) (N := 18) hx hb hts in_1 tyX1 tyX1_ok nmX1 hown hK hP hD hS 0 rfl rfl 12 (by decide) (hts (.fieldLink RX1 15 "CardTables$Deal" "points" "[I") (zt_t1 108 rfl rfl)) (fun _ h9 => h9) rfl hin rfl (by decide +kernel) rfl rfl (Nat.le_of_ble_eq_true rfl) dX1_init_15 (fun H locs hP hD hS => ?_)
  have hP : va_P D vwCl ([(h0, .inr (1, [.int 0, .int 0, .int 0, .int 0, .int 0, .int 0, .int 0, .int 0, .int 0, .int 0, .int 0, .ref q_1, .ref q_2, .null, .null, .null, .null, .null]))] ++ zW K V) H := hP
  have hD : va_D A ([(h0, .inr (1, [.int 0, .int 0, .int 0, .int 0, .int 0, .int 0, .int 0, .int 0, .int 0, .int 0, .int 0, .ref q_1, .ref q_2, .null, .null, .null, .null, .null]))] ++ zW K V) := hD
  refine lv_aload_n hx hb dX1_init_18 rfl (lv_at hl 0 rfl) ?_
  refine lv_bipush (v := 15) hx hb dX1_init_19 (by decide) ?_
  refine va_newa (atype := .int) (a0 := (15, .inl (fun _ => 0))) (N' := 15) (ty := .int) hx hb (hts (.arrayClass .int) (zt_t1 58 rfl rfl)) rfl hK hP hD hS hA (fun _ => rfl) (by decide +kernel) (by decide +kernel) (by decide +kernel) (Nat.le_of_ble_eq_true rfl) (Nat.le_of_ble_eq_true rfl) dX1_init_21 (fun q_3 cA_3 H hK hP hD hS => ?_)
  have hA1 := hK.2 0 _ rfl
  have hK := hK.sub (tys' := []) [] rfl
  obtain ⟨K, V, hC, hP, hD, hAr, hle, hq⟩ := cnewE (X := [(h0, .inr (1, [.int 0, .int 0, .int 0, .int 0, .int 0, .int 0, .int 0, .int 0, .int 0, .int 0, .int 0, .ref q_1, .ref q_2, .null, .null, .null, .null, .null]))]) (k := 20) hC rfl (by decide) (fun h => by cases h) rfl hP hD hAr hA1
  have hz := hz.add hle hq
  clear hle hq
  refine W.widen (k := 3) (n := 19) (by omega) (by omega) ?_
  refine va_putF (D := D) (ci := 1) (v := .ref q_3) (ty := .array .int) (C := RX1) (T := TX1) (N := 18) hx hb hts in_1 tyX1 tyX1_ok nmX1 hown hK hP hD hS 0 rfl rfl 13 (by decide) (hts (.fieldLink RX1 18 "CardTables$Deal" "owners" "[I") (zt_t1 111 rfl rfl)) (fun _ h9 => h9) rfl hin rfl (by decide +kernel) rfl rfl (Nat.le_of_ble_eq_true rfl) dX1_init_23 (fun H locs hP hD hS => ?_)
  have hP : va_P D vwCl ([(h0, .inr (1, [.int 0, .int 0, .int 0, .int 0, .int 0, .int 0, .int 0, .int 0, .int 0, .int 0, .int 0, .ref q_1, .ref q_2, .ref q_3, .null, .null, .null, .null]))] ++ zW K V) H := hP
  have hD : va_D A ([(h0, .inr (1, [.int 0, .int 0, .int 0, .int 0, .int 0, .int 0, .int 0, .int 0, .int 0, .int 0, .int 0, .ref q_1, .ref q_2, .ref q_3, .null, .null, .null, .null]))] ++ zW K V) := hD
  refine lv_aload_n hx hb dX1_init_26 rfl (lv_at hl 0 rfl) ?_
  refine lv_bipush (v := 15) hx hb dX1_init_27 (by decide) ?_
  refine va_newa (atype := .int) (a0 := (15, .inl (fun _ => 0))) (N' := 15) (ty := .int) hx hb (hts (.arrayClass .int) (zt_t1 58 rfl rfl)) rfl hK hP hD hS hA (fun _ => rfl) (by decide +kernel) (by decide +kernel) (by decide +kernel) (Nat.le_of_ble_eq_true rfl) (Nat.le_of_ble_eq_true rfl) dX1_init_29 (fun q_4 cA_4 H hK hP hD hS => ?_)
  have hA1 := hK.2 0 _ rfl
  have hK := hK.sub (tys' := []) [] rfl
  obtain ⟨K, V, hC, hP, hD, hAr, hle, hq⟩ := cnewE (X := [(h0, .inr (1, [.int 0, .int 0, .int 0, .int 0, .int 0, .int 0, .int 0, .int 0, .int 0, .int 0, .int 0, .ref q_1, .ref q_2, .ref q_3, .null, .null, .null, .null]))]) (k := 20) hC rfl (by decide) (fun h => by cases h) rfl hP hD hAr hA1
  have hz := hz.add hle hq
  clear hle hq
  refine W.widen (k := 4) (n := 34) (by omega) (by omega) ?_
  refine va_putF (D := D) (ci := 1) (v := .ref q_4) (ty := .array .int) (C := RX1) (T := TX1) (N := 18) hx hb hts in_1 tyX1 tyX1_ok nmX1 hown hK hP hD hS 0 rfl rfl 14 (by decide) (hts (.fieldLink RX1 21 "CardTables$Deal" "scores" "[I") (zt_t1 113 rfl rfl)) (fun _ h9 => h9) rfl hin rfl (by decide +kernel) rfl rfl (Nat.le_of_ble_eq_true rfl) dX1_init_31 (fun H locs hP hD hS => ?_)
  have hP : va_P D vwCl ([(h0, .inr (1, [.int 0, .int 0, .int 0, .int 0, .int 0, .int 0, .int 0, .int 0, .int 0, .int 0, .int 0, .ref q_1, .ref q_2, .ref q_3, .ref q_4, .null, .null, .null]))] ++ zW K V) H := hP
  have hD : va_D A ([(h0, .inr (1, [.int 0, .int 0, .int 0, .int 0, .int 0, .int 0, .int 0, .int 0, .int 0, .int 0, .int 0, .ref q_1, .ref q_2, .ref q_3, .ref q_4, .null, .null, .null]))] ++ zW K V) := hD
  refine lv_aload_n hx hb dX1_init_34 rfl (lv_at hl 0 rfl) ?_
  refine lv_bipush (v := 60) hx hb dX1_init_35 (by decide) ?_
  refine va_newa (atype := .int) (a0 := (60, .inl (fun _ => 0))) (N' := 60) (ty := .int) hx hb (hts (.arrayClass .int) (zt_t1 58 rfl rfl)) rfl hK hP hD hS hA (fun _ => rfl) (by decide +kernel) (by decide +kernel) (by decide +kernel) (Nat.le_of_ble_eq_true rfl) (Nat.le_of_ble_eq_true rfl) dX1_init_37 (fun q_5 cA_5 H hK hP hD hS => ?_)
  have hA1 := hK.2 0 _ rfl
  have hK := hK.sub (tys' := []) [] rfl
  obtain ⟨K, V, hC, hP, hD, hAr, hle, hq⟩ := cnewE (X := [(h0, .inr (1, [.int 0, .int 0, .int 0, .int 0, .int 0, .int 0, .int 0, .int 0, .int 0, .int 0, .int 0, .ref q_1, .ref q_2, .ref q_3, .ref q_4, .null, .null, .null]))]) (k := 20) hC rfl (by decide) (fun h => by cases h) rfl hP hD hAr hA1
  have hz := hz.add hle hq
  clear hle hq
  refine W.widen (k := 5) (n := 94) (by omega) (by omega) ?_
  refine va_putF (D := D) (ci := 1) (v := .ref q_5) (ty := .array .int) (C := RX1) (T := TX1) (N := 18) hx hb hts in_1 tyX1 tyX1_ok nmX1 hown hK hP hD hS 0 rfl rfl 15 (by decide) (hts (.fieldLink RX1 24 "CardTables$Deal" "trickOf" "[I") (zt_t1 114 rfl rfl)) (fun _ h9 => h9) rfl hin rfl (by decide +kernel) rfl rfl (Nat.le_of_ble_eq_true rfl) dX1_init_39 (fun H locs hP hD hS => ?_)
  have hP : va_P D vwCl ([(h0, .inr (1, [.int 0, .int 0, .int 0, .int 0, .int 0, .int 0, .int 0, .int 0, .int 0, .int 0, .int 0, .ref q_1, .ref q_2, .ref q_3, .ref q_4, .ref q_5, .null, .null]))] ++ zW K V) H := hP
  have hD : va_D A ([(h0, .inr (1, [.int 0, .int 0, .int 0, .int 0, .int 0, .int 0, .int 0, .int 0, .int 0, .int 0, .int 0, .ref q_1, .ref q_2, .ref q_3, .ref q_4, .ref q_5, .null, .null]))] ++ zW K V) := hD
  refine lv_aload_n hx hb dX1_init_42 rfl (lv_at hl 0 rfl) ?_
  refine lv_bipush (v := 60) hx hb dX1_init_43 (by decide) ?_
  refine va_newa (atype := .int) (a0 := (60, .inl (fun _ => 0))) (N' := 60) (ty := .int) hx hb (hts (.arrayClass .int) (zt_t1 58 rfl rfl)) rfl hK hP hD hS hA (fun _ => rfl) (by decide +kernel) (by decide +kernel) (by decide +kernel) (Nat.le_of_ble_eq_true rfl) (Nat.le_of_ble_eq_true rfl) dX1_init_45 (fun q_6 cA_6 H hK hP hD hS => ?_)
  have hA1 := hK.2 0 _ rfl
  have hK := hK.sub (tys' := []) [] rfl
  obtain ⟨K, V, hC, hP, hD, hAr, hle, hq⟩ := cnewE (X := [(h0, .inr (1, [.int 0, .int 0, .int 0, .int 0, .int 0, .int 0, .int 0, .int 0, .int 0, .int 0, .int 0, .ref q_1, .ref q_2, .ref q_3, .ref q_4, .ref q_5, .null, .null]))]) (k := 20) hC rfl (by decide) (fun h => by cases h) rfl hP hD hAr hA1
  have hz := hz.add hle hq
  clear hle hq
  refine W.widen (k := 6) (n := 154) (by omega) (by omega) ?_
  refine va_putF (D := D) (ci := 1) (v := .ref q_6) (ty := .array .int) (C := RX1) (T := TX1) (N := 18) hx hb hts in_1 tyX1 tyX1_ok nmX1 hown hK hP hD hS 0 rfl rfl 16 (by decide) (hts (.fieldLink RX1 27 "CardTables$Deal" "denied" "[I") (zt_t1 116 rfl rfl)) (fun _ h9 => h9) rfl hin rfl (by decide +kernel) rfl rfl (Nat.le_of_ble_eq_true rfl) dX1_init_47 (fun H locs hP hD hS => ?_)
  have hP : va_P D vwCl ([(h0, .inr (1, [.int 0, .int 0, .int 0, .int 0, .int 0, .int 0, .int 0, .int 0, .int 0, .int 0, .int 0, .ref q_1, .ref q_2, .ref q_3, .ref q_4, .ref q_5, .ref q_6, .null]))] ++ zW K V) H := hP
  have hD : va_D A ([(h0, .inr (1, [.int 0, .int 0, .int 0, .int 0, .int 0, .int 0, .int 0, .int 0, .int 0, .int 0, .int 0, .ref q_1, .ref q_2, .ref q_3, .ref q_4, .ref q_5, .ref q_6, .null]))] ++ zW K V) := hD
  refine lv_aload_n hx hb dX1_init_50 rfl (lv_at hl 0 rfl) ?_
  refine va_new (ci := 7) (fs := [.null, .int 0]) (C := RX8) (T := TX8) (N := 2) hx hb hts in_7 tyX8 tyX8_ok hown (hts (.classLink RX1 30 RX8) (zt_t1 67 rfl rfl)) (hts (.instantiable RX8 2) (zt_t1 35 rfl rfl)) (hts (.initialized RX8) (zt_t1 3 rfl rfl)) hK hP hD hS hA rfl (fun j hj => by rcases (show j = 0 ∨ j = 1 by omega) with rfl | rfl <;> rfl) (Nat.le_of_ble_eq_true rfl) (Nat.le_of_ble_eq_true rfl) dX1_init_51 (fun q_7 H hP hD hS => ?_)
  have hP : va_P D vwCl (([(h0, .inr (1, [.int 0, .int 0, .int 0, .int 0, .int 0, .int 0, .int 0, .int 0, .int 0, .int 0, .int 0, .ref q_1, .ref q_2, .ref q_3, .ref q_4, .ref q_5, .ref q_6, .null]))] ++ zW K V) ++ [(q_7, .inr (7, [.null, .int 0]))]) H := hP
  have hD : va_D A (([(h0, .inr (1, [.int 0, .int 0, .int 0, .int 0, .int 0, .int 0, .int 0, .int 0, .int 0, .int 0, .int 0, .ref q_1, .ref q_2, .ref q_3, .ref q_4, .ref q_5, .ref q_6, .null]))] ++ zW K V) ++ [(q_7, .inr (7, [.null, .int 0]))]) := hD
  refine W.widen (k := 7) (n := 156) (by omega) (by omega) ?_
  refine lv_dup hx hb dX1_init_54 rfl ?_
  refine lv_bipush (v := 101) hx hb dX1_init_55 (by decide) ?_
  refine ccall (As := [.int 101]) (rest := [.ref q_7, .ref h0]) (k := 7) (X := [(h0, .inr (1, [.int 0, .int 0, .int 0, .int 0, .int 0, .int 0, .int 0, .int 0, .int 0, .int 0, .int 0, .ref q_1, .ref q_2, .ref q_3, .ref q_4, .ref q_5, .ref q_6, .null]))]) C (c_Row_init l D q_7 H.size 101 101 (by decide +kernel) (by decide +kernel) (by decide +kernel) (by decide +kernel)) (by decide) mc_X8_init (zt_t1 68 rfl rfl) ⟨Nat.le_of_ble_eq_true rfl, Nat.le_of_ble_eq_true rfl⟩ ⟨Nat.le_of_ble_eq_true rfl, Nat.le_of_ble_eq_true rfl⟩ hl.1 (Nat.le_of_ble_eq_true rfl) dX1_init_57 hC hP hD hS hA hAr hK hE (fun K V H locs hC hP hD hS hAr hle hq => ?_)
  have hz := hz.add hle hq
  clear hle hq
  refine W.widen (k := 8) (n := 257) (by omega) (by omega) ?_
  refine va_putF (D := D) (ci := 1) (v := .ref q_7) (ty := .object "CardTables$Row") (C := RX1) (T := TX1) (N := 18) hx hb hts in_1 tyX1 tyX1_ok nmX1 hown hK hP hD hS 0 rfl rfl 17 (by decide) (hts (.fieldLink RX1 35 "CardTables$Deal" "calls" "LCardTables$Row;") (zt_t1 117 rfl rfl)) (fun _ h9 => h9) rfl hin rfl (by decide +kernel) rfl rfl (Nat.le_of_ble_eq_true rfl) dX1_init_60 (fun H locs hP hD hS => ?_)
  have hP : va_P D vwCl ([(h0, .inr (1, [.int 0, .int 0, .int 0, .int 0, .int 0, .int 0, .int 0, .int 0, .int 0, .int 0, .int 0, .ref q_1, .ref q_2, .ref q_3, .ref q_4, .ref q_5, .ref q_6, .ref q_7]))] ++ zW K V) H := hP
  have hD : va_D A ([(h0, .inr (1, [.int 0, .int 0, .int 0, .int 0, .int 0, .int 0, .int 0, .int 0, .int 0, .int 0, .int 0, .ref q_1, .ref q_2, .ref q_3, .ref q_4, .ref q_5, .ref q_6, .ref q_7]))] ++ zW K V) := hD
  have hR : ∀ j k' n', zX 1 j = some (k', n') → zat K ((fun j => ([0, 0, 0, 0, 0, 0, 0, 0, 0, 0, 0, q_1, q_2, q_3, q_4, q_5, q_6, q_7] : List Nat).getD j 0) j) k' n' := by
    refine zXf (P := fun j k' n' => zat K ((fun j => ([0, 0, 0, 0, 0, 0, 0, 0, 0, 0, 0, q_1, q_2, q_3, q_4, q_5, q_6, q_7] : List Nat).getD j 0) j) k' n') 1 [(1, 11, 20, 2), (1, 12, 20, 2), (1, 13, 20, 15), (1, 14, 20, 15), (1, 15, 20, 60), (1, 16, 20, 60), (1, 17, 7, 0)] (by decide) (fun q hq => ?_)
    simp only [List.mem_cons, List.not_mem_nil, or_false] at hq
    rcases hq with rfl | rfl | rfl | rfl | rfl | rfl | rfl
    · exact hz.get 6 rfl
    · exact hz.get 5 rfl
    · exact hz.get 4 rfl
    · exact hz.get 3 rfl
    · exact hz.get 2 rfl
    · exact hz.get 1 rfl
    · exact hz.get 0 rfl
  obtain ⟨K, V, ⟨hC, hP, hD, hAr, hle, hq⟩, hzr⟩ := cpushO (X := []) (k := 1) (by decide) hC hP hD (fun j => ([0, 0, 0, 0, 0, 0, 0, 0, 0, 0, 0, q_1, q_2, q_3, q_4, q_5, q_6, q_7] : List Nat).getD j 0) (fun j => ([0, 0, 0, 0, 0, 0, 0, 0, 0, 0, 0, 0, 0, 0, 0, 0, 0, 0] : List Int32).getD j 0) (fun K' V' h1 h2 h3 h4 => by rw [zF_1 h1, h2, h3] <;> rfl) hR zi15 zi4 hAr
  refine W.widen (k := 8) (n := 257) (by omega) (by omega) ?_
  exact cend hx hb hr hlocks hAe hC ⟨fun _ => rfl, fun h => by cases h⟩ hP hD hS hAr hq dX1_init_63
theorem mc_X9_init : zmC yX9_init cX9_init 3 1 := ⟨⟨zt_t1 2 rfl rfl, zt_t1 32 rfl rfl, by decide, by decide, by decide +kernel⟩, zt_t1 31 rfl rfl, rfl⟩
set_option maxHeartbeats 4000000 in
set_option maxRecDepth 100000 in
theorem c_Table_init (l : Launch) (D : va_G) (h0 sz : Nat) (i : Int32) : Met l yX9_init (zc yX9_init cX9_init 3 none) (rmc 3 28 549) (va_Pc [.ref h0, .int i] (cP D h0 sz (.inr (8, [.int 0, .null, .int 0, .int 0, .int 0, .null, .null, .null, .null, .null, .null, .null, .null, .null])))) (cQ D 8 h0 sz (.inr (8, [.int 0, .null, .int 0, .int 0, .int 0, .null, .null, .null, .null, .null, .null, .null, .null, .null]))) 28 549 (va_A [(h0, .inr (8, [.int 0, .null, .int 0, .int 0, .int 0, .null, .null, .null, .null, .null, .null, .null, .null, .null]))] sz) := by
  refine cin (by decide) (Nat.le_of_ble_eq_true rfl) ?_
  intro p e s m args below meth c ls A hsz hAe C hr hlocks hnm hK hE hP hD hA hS hl
  subst hsz
  have C : CallFix p m c cX9_init 3 s args zw RX9 := C
  obtain ⟨hx, hb, hml, hown, hts⟩ := id C
  have hin : meth.name = "<init>" := hnm
  obtain ⟨K, V, hC, hP, hD, hAr⟩ : ∃ (K : zK) (V : zV), zC K V ∧ va_P D vwCl ([(h0, .inr (8, [.int 0, .null, .int 0, .int 0, .int 0, .null, .null, .null, .null, .null, .null, .null, .null, .null]))] ++ zW K V) s.heap ∧ va_D A ([(h0, .inr (8, [.int 0, .null, .int 0, .int 0, .int 0, .null, .null, .null, .null, .null, .null, .null, .null, .null]))] ++ zW K V) ∧ zAr K s := ⟨kE, vE, kE_C, hP, hD, kE_Ar s⟩
  have hz : zats K [] := zats.nil
  have hl : lv_has ls 3 [(0, .ref h0), (1, .int i)] := hl
  refine lv_aload_n hx hb dX9_init_0 rfl (lv_at hl 0 rfl) ?_
  refine W.objInit hx hb hown (hts (.methodLink RX9 3 objectInit) (zt_t1 33 rfl rfl)) (hts (.instanceMethod objectInit) (zt_t1 23 rfl rfl)) (hts (.code objectInit ⟨#[0xb1]⟩ 1 none) (zt_t1 24 rfl rfl)) rfl (by rw [hml]; exact hl.1) rfl dX9_init_1 (Nat.le_of_ble_eq_true rfl) (Nat.le_of_ble_eq_true rfl) ?_
  refine W.eq (g2 := F0 m 4 ls []) rfl ?_
  refine lv_aload_n hx hb dX9_init_4 rfl (lv_at hl 0 rfl) ?_
  refine lv_bipush (v := 60) hx hb dX9_init_5 (by decide) ?_
  refine va_newa (atype := .int) (a0 := (60, .inl (fun _ => 0))) (N' := 60) (ty := .int) hx hb (hts (.arrayClass .int) (zt_t1 58 rfl rfl)) rfl hK hP hD hS hA (fun _ => rfl) (by decide +kernel) (by decide +kernel) (by decide +kernel) (Nat.le_of_ble_eq_true rfl) (Nat.le_of_ble_eq_true rfl) dX9_init_7 (fun q_1 cA_1 H hK hP hD hS => ?_)
  have hA1 := hK.2 0 _ rfl
  have hK := hK.sub (tys' := []) [] rfl
  obtain ⟨K, V, hC, hP, hD, hAr, hle, hq⟩ := cnewE (X := [(h0, .inr (8, [.int 0, .null, .int 0, .int 0, .int 0, .null, .null, .null, .null, .null, .null, .null, .null, .null]))]) (k := 20) hC rfl (by decide) (fun h => by cases h) rfl hP hD hAr hA1
  have hz := hz.add hle hq
  clear hle hq
  refine W.widen (k := 1) (n := 60) (by omega) (by omega) ?_
  refine va_putF (D := D) (ci := 8) (v := .ref q_1) (ty := .array .int) (C := RX9) (T := TX9) (N := 14) hx hb hts in_8 tyX9 tyX9_ok nmX9 hown hK hP hD hS 0 rfl rfl 5 (by decide) (hts (.fieldLink RX9 9 "CardTables$Table" "colours" "[I") (zt_t1 166 rfl rfl)) (fun _ h9 => h9) rfl hin rfl (by decide +kernel) rfl rfl (Nat.le_of_ble_eq_true rfl) dX9_init_9 (fun H locs hP hD hS => ?_)
  have hP : va_P D vwCl ([(h0, .inr (8, [.int 0, .null, .int 0, .int 0, .int 0, .ref q_1, .null, .null, .null, .null, .null, .null, .null, .null]))] ++ zW K V) H := hP
  have hD : va_D A ([(h0, .inr (8, [.int 0, .null, .int 0, .int 0, .int 0, .ref q_1, .null, .null, .null, .null, .null, .null, .null, .null]))] ++ zW K V) := hD
  refine lv_aload_n hx hb dX9_init_12 rfl (lv_at hl 0 rfl) ?_
  refine lv_bipush (v := 60) hx hb dX9_init_13 (by decide) ?_
  refine va_newa (atype := .int) (a0 := (60, .inl (fun _ => 0))) (N' := 60) (ty := .int) hx hb (hts (.arrayClass .int) (zt_t1 58 rfl rfl)) rfl hK hP hD hS hA (fun _ => rfl) (by decide +kernel) (by decide +kernel) (by decide +kernel) (Nat.le_of_ble_eq_true rfl) (Nat.le_of_ble_eq_true rfl) dX9_init_15 (fun q_2 cA_2 H hK hP hD hS => ?_)
  have hA1 := hK.2 0 _ rfl
  have hK := hK.sub (tys' := []) [] rfl
  obtain ⟨K, V, hC, hP, hD, hAr, hle, hq⟩ := cnewE (X := [(h0, .inr (8, [.int 0, .null, .int 0, .int 0, .int 0, .ref q_1, .null, .null, .null, .null, .null, .null, .null, .null]))]) (k := 20) hC rfl (by decide) (fun h => by cases h) rfl hP hD hAr hA1
  have hz := hz.add hle hq
  clear hle hq
  refine W.widen (k := 2) (n := 120) (by omega) (by omega) ?_
  refine va_putF (D := D) (ci := 8) (v := .ref q_2) (ty := .array .int) (C := RX9) (T := TX9) (N := 14) hx hb hts in_8 tyX9 tyX9_ok nmX9 hown hK hP hD hS 0 rfl rfl 6 (by decide) (hts (.fieldLink RX9 15 "CardTables$Table" "places" "[I") (zt_t1 168 rfl rfl)) (fun _ h9 => h9) rfl hin rfl (by decide +kernel) rfl rfl (Nat.le_of_ble_eq_true rfl) dX9_init_17 (fun H locs hP hD hS => ?_)
  have hP : va_P D vwCl ([(h0, .inr (8, [.int 0, .null, .int 0, .int 0, .int 0, .ref q_1, .ref q_2, .null, .null, .null, .null, .null, .null, .null]))] ++ zW K V) H := hP
  have hD : va_D A ([(h0, .inr (8, [.int 0, .null, .int 0, .int 0, .int 0, .ref q_1, .ref q_2, .null, .null, .null, .null, .null, .null, .null]))] ++ zW K V) := hD
  refine lv_aload_n hx hb dX9_init_20 rfl (lv_at hl 0 rfl) ?_
  refine lv_iconst (v := 4) hx hb dX9_init_21 (by decide) ?_
  refine va_newa (atype := .boolean) (a0 := (4, .inl (fun _ => 0))) (N' := 4) (ty := .boolean) hx hb (hts (.arrayClass .boolean) (zt_t1 59 rfl rfl)) rfl hK hP hD hS hA (fun _ => rfl) (by decide +kernel) (by decide +kernel) (by decide +kernel) (Nat.le_of_ble_eq_true rfl) (Nat.le_of_ble_eq_true rfl) dX9_init_22 (fun q_3 cA_3 H hK hP hD hS => ?_)
  have hA1 := hK.2 0 _ rfl
  have hK := hK.sub (tys' := []) [] rfl
  obtain ⟨K, V, hC, hP, hD, hAr, hle, hq⟩ := cnewE (X := [(h0, .inr (8, [.int 0, .null, .int 0, .int 0, .int 0, .ref q_1, .ref q_2, .null, .null, .null, .null, .null, .null, .null]))]) (k := 21) hC rfl (by decide) (fun h => by cases h) rfl hP hD hAr hA1
  have hz := hz.add hle hq
  clear hle hq
  refine W.widen (k := 3) (n := 124) (by omega) (by omega) ?_
  refine va_putF (D := D) (ci := 8) (v := .ref q_3) (ty := .array .boolean) (C := RX9) (T := TX9) (N := 14) hx hb hts in_8 tyX9 tyX9_ok nmX9 hown hK hP hD hS 0 rfl rfl 7 (by decide) (hts (.fieldLink RX9 18 "CardTables$Table" "taken" "[Z") (zt_t1 170 rfl rfl)) (fun _ h9 => h9) rfl hin rfl (by decide +kernel) rfl rfl (Nat.le_of_ble_eq_true rfl) dX9_init_24 (fun H locs hP hD hS => ?_)
  have hP : va_P D vwCl ([(h0, .inr (8, [.int 0, .null, .int 0, .int 0, .int 0, .ref q_1, .ref q_2, .ref q_3, .null, .null, .null, .null, .null, .null]))] ++ zW K V) H := hP
  have hD : va_D A ([(h0, .inr (8, [.int 0, .null, .int 0, .int 0, .int 0, .ref q_1, .ref q_2, .ref q_3, .null, .null, .null, .null, .null, .null]))] ++ zW K V) := hD
  refine lv_aload_n hx hb dX9_init_27 rfl (lv_at hl 0 rfl) ?_
  refine lv_iconst (v := 4) hx hb dX9_init_28 (by decide) ?_
  refine va_newa (atype := .int) (a0 := (4, .inl (fun _ => 0))) (N' := 4) (ty := .int) hx hb (hts (.arrayClass .int) (zt_t1 58 rfl rfl)) rfl hK hP hD hS hA (fun _ => rfl) (by decide +kernel) (by decide +kernel) (by decide +kernel) (Nat.le_of_ble_eq_true rfl) (Nat.le_of_ble_eq_true rfl) dX9_init_29 (fun q_4 cA_4 H hK hP hD hS => ?_)
  have hA1 := hK.2 0 _ rfl
  have hK := hK.sub (tys' := []) [] rfl
  obtain ⟨K, V, hC, hP, hD, hAr, hle, hq⟩ := cnewE (X := [(h0, .inr (8, [.int 0, .null, .int 0, .int 0, .int 0, .ref q_1, .ref q_2, .ref q_3, .null, .null, .null, .null, .null, .null]))]) (k := 20) hC rfl (by decide) (fun h => by cases h) rfl hP hD hAr hA1
  have hz := hz.add hle hq
  clear hle hq
  refine W.widen (k := 4) (n := 128) (by omega) (by omega) ?_
  refine va_putF (D := D) (ci := 8) (v := .ref q_4) (ty := .array .int) (C := RX9) (T := TX9) (N := 14) hx hb hts in_8 tyX9 tyX9_ok nmX9 hown hK hP hD hS 0 rfl rfl 8 (by decide) (hts (.fieldLink RX9 22 "CardTables$Table" "sums" "[I") (zt_t1 172 rfl rfl)) (fun _ h9 => h9) rfl hin rfl (by decide +kernel) rfl rfl (Nat.le_of_ble_eq_true rfl) dX9_init_31 (fun H locs hP hD hS => ?_)
  have hP : va_P D vwCl ([(h0, .inr (8, [.int 0, .null, .int 0, .int 0, .int 0, .ref q_1, .ref q_2, .ref q_3, .ref q_4, .null, .null, .null, .null, .null]))] ++ zW K V) H := hP
  have hD : va_D A ([(h0, .inr (8, [.int 0, .null, .int 0, .int 0, .int 0, .ref q_1, .ref q_2, .ref q_3, .ref q_4, .null, .null, .null, .null, .null]))] ++ zW K V) := hD
  refine lv_aload_n hx hb dX9_init_34 rfl (lv_at hl 0 rfl) ?_
  refine va_new (ci := 7) (fs := [.null, .int 0]) (C := RX8) (T := TX8) (N := 2) hx hb hts in_7 tyX8 tyX8_ok hown (hts (.classLink RX9 25 RX8) (zt_t1 34 rfl rfl)) (hts (.instantiable RX8 2) (zt_t1 35 rfl rfl)) (hts (.initialized RX8) (zt_t1 3 rfl rfl)) hK hP hD hS hA rfl (fun j hj => by rcases (show j = 0 ∨ j = 1 by omega) with rfl | rfl <;> rfl) (Nat.le_of_ble_eq_true rfl) (Nat.le_of_ble_eq_true rfl) dX9_init_35 (fun q_5 H hP hD hS => ?_)
  have hP : va_P D vwCl (([(h0, .inr (8, [.int 0, .null, .int 0, .int 0, .int 0, .ref q_1, .ref q_2, .ref q_3, .ref q_4, .null, .null, .null, .null, .null]))] ++ zW K V) ++ [(q_5, .inr (7, [.null, .int 0]))]) H := hP
  have hD : va_D A (([(h0, .inr (8, [.int 0, .null, .int 0, .int 0, .int 0, .ref q_1, .ref q_2, .ref q_3, .ref q_4, .null, .null, .null, .null, .null]))] ++ zW K V) ++ [(q_5, .inr (7, [.null, .int 0]))]) := hD
  refine W.widen (k := 5) (n := 130) (by omega) (by omega) ?_
  refine lv_dup hx hb dX9_init_38 rfl ?_
  refine lv_bipush (v := 60) hx hb dX9_init_39 (by decide) ?_
  refine ccall (As := [.int 60]) (rest := [.ref q_5, .ref h0]) (k := 7) (X := [(h0, .inr (8, [.int 0, .null, .int 0, .int 0, .int 0, .ref q_1, .ref q_2, .ref q_3, .ref q_4, .null, .null, .null, .null, .null]))]) C (c_Row_init l D q_5 H.size 60 60 (by decide +kernel) (by decide +kernel) (by decide +kernel) (by decide +kernel)) (by decide) mc_X8_init (zt_t1 36 rfl rfl) ⟨Nat.le_of_ble_eq_true rfl, Nat.le_of_ble_eq_true rfl⟩ ⟨Nat.le_of_ble_eq_true rfl, Nat.le_of_ble_eq_true rfl⟩ hl.1 (Nat.le_of_ble_eq_true rfl) dX9_init_41 hC hP hD hS hA hAr hK hE (fun K V H locs hC hP hD hS hAr hle hq => ?_)
  have hz := hz.add hle hq
  clear hle hq
  refine W.widen (k := 6) (n := 190) (by omega) (by omega) ?_
  refine va_putF (D := D) (ci := 8) (v := .ref q_5) (ty := .object "CardTables$Row") (C := RX9) (T := TX9) (N := 14) hx hb hts in_8 tyX9 tyX9_ok nmX9 hown hK hP hD hS 0 rfl rfl 9 (by decide) (hts (.fieldLink RX9 30 "CardTables$Table" "rest" "LCardTables$Row;") (zt_t1 174 rfl rfl)) (fun _ h9 => h9) rfl hin rfl (by decide +kernel) rfl rfl (Nat.le_of_ble_eq_true rfl) dX9_init_44 (fun H locs hP hD hS => ?_)
  have hP : va_P D vwCl ([(h0, .inr (8, [.int 0, .null, .int 0, .int 0, .int 0, .ref q_1, .ref q_2, .ref q_3, .ref q_4, .ref q_5, .null, .null, .null, .null]))] ++ zW K V) H := hP
  have hD : va_D A ([(h0, .inr (8, [.int 0, .null, .int 0, .int 0, .int 0, .ref q_1, .ref q_2, .ref q_3, .ref q_4, .ref q_5, .null, .null, .null, .null]))] ++ zW K V) := hD
  refine lv_aload_n hx hb dX9_init_47 rfl (lv_at hl 0 rfl) ?_
  refine va_new (ci := 7) (fs := [.null, .int 0]) (C := RX8) (T := TX8) (N := 2) hx hb hts in_7 tyX8 tyX8_ok hown (hts (.classLink RX9 25 RX8) (zt_t1 34 rfl rfl)) (hts (.instantiable RX8 2) (zt_t1 35 rfl rfl)) (hts (.initialized RX8) (zt_t1 3 rfl rfl)) hK hP hD hS hA rfl (fun j hj => by rcases (show j = 0 ∨ j = 1 by omega) with rfl | rfl <;> rfl) (Nat.le_of_ble_eq_true rfl) (Nat.le_of_ble_eq_true rfl) dX9_init_48 (fun q_6 H hP hD hS => ?_)
  have hP : va_P D vwCl (([(h0, .inr (8, [.int 0, .null, .int 0, .int 0, .int 0, .ref q_1, .ref q_2, .ref q_3, .ref q_4, .ref q_5, .null, .null, .null, .null]))] ++ zW K V) ++ [(q_6, .inr (7, [.null, .int 0]))]) H := hP
  have hD : va_D A (([(h0, .inr (8, [.int 0, .null, .int 0, .int 0, .int 0, .ref q_1, .ref q_2, .ref q_3, .ref q_4, .ref q_5, .null, .null, .null, .null]))] ++ zW K V) ++ [(q_6, .inr (7, [.null, .int 0]))]) := hD
  refine W.widen (k := 7) (n := 192) (by omega) (by omega) ?_
  refine lv_dup hx hb dX9_init_51 rfl ?_
  refine lv_iconst (v := 4) hx hb dX9_init_52 (by decide) ?_
  refine ccall (As := [.int 4]) (rest := [.ref q_6, .ref h0]) (k := 7) (X := [(h0, .inr (8, [.int 0, .null, .int 0, .int 0, .int 0, .ref q_1, .ref q_2, .ref q_3, .ref q_4, .ref q_5, .null, .null, .null, .null]))]) C (c_Row_init l D q_6 H.size 4 4 (by decide +kernel) (by decide +kernel) (by decide +kernel) (by decide +kernel)) (by decide) mc_X8_init (zt_t1 36 rfl rfl) ⟨Nat.le_of_ble_eq_true rfl, Nat.le_of_ble_eq_true rfl⟩ ⟨Nat.le_of_ble_eq_true rfl, Nat.le_of_ble_eq_true rfl⟩ hl.1 (Nat.le_of_ble_eq_true rfl) dX9_init_53 hC hP hD hS hA hAr hK hE (fun K V H locs hC hP hD hS hAr hle hq => ?_)
  have hz := hz.add hle hq
  clear hle hq
  refine W.widen (k := 8) (n := 196) (by omega) (by omega) ?_
  refine va_putF (D := D) (ci := 8) (v := .ref q_6) (ty := .object "CardTables$Row") (C := RX9) (T := TX9) (N := 14) hx hb hts in_8 tyX9 tyX9_ok nmX9 hown hK hP hD hS 0 rfl rfl 10 (by decide) (hts (.fieldLink RX9 34 "CardTables$Table" "trick" "LCardTables$Row;") (zt_t1 176 rfl rfl)) (fun _ h9 => h9) rfl hin rfl (by decide +kernel) rfl rfl (Nat.le_of_ble_eq_true rfl) dX9_init_56 (fun H locs hP hD hS => ?_)
  have hP : va_P D vwCl ([(h0, .inr (8, [.int 0, .null, .int 0, .int 0, .int 0, .ref q_1, .ref q_2, .ref q_3, .ref q_4, .ref q_5, .ref q_6, .null, .null, .null]))] ++ zW K V) H := hP
  have hD : va_D A ([(h0, .inr (8, [.int 0, .null, .int 0, .int 0, .int 0, .ref q_1, .ref q_2, .ref q_3, .ref q_4, .ref q_5, .ref q_6, .null, .null, .null]))] ++ zW K V) := hD
  refine lv_aload_n hx hb dX9_init_59 rfl (lv_at hl 0 rfl) ?_
  refine va_new (ci := 7) (fs := [.null, .int 0]) (C := RX8) (T := TX8) (N := 2) hx hb hts in_7 tyX8 tyX8_ok hown (hts (.classLink RX9 25 RX8) (zt_t1 34 rfl rfl)) (hts (.instantiable RX8 2) (zt_t1 35 rfl rfl)) (hts (.initialized RX8) (zt_t1 3 rfl rfl)) hK hP hD hS hA rfl (fun j hj => by rcases (show j = 0 ∨ j = 1 by omega) with rfl | rfl <;> rfl) (Nat.le_of_ble_eq_true rfl) (Nat.le_of_ble_eq_true rfl) dX9_init_60 (fun q_7 H hP hD hS => ?_)
  have hP : va_P D vwCl (([(h0, .inr (8, [.int 0, .null, .int 0, .int 0, .int 0, .ref q_1, .ref q_2, .ref q_3, .ref q_4, .ref q_5, .ref q_6, .null, .null, .null]))] ++ zW K V) ++ [(q_7, .inr (7, [.null, .int 0]))]) H := hP
  have hD : va_D A (([(h0, .inr (8, [.int 0, .null, .int 0, .int 0, .int 0, .ref q_1, .ref q_2, .ref q_3, .ref q_4, .ref q_5, .ref q_6, .null, .null, .null]))] ++ zW K V) ++ [(q_7, .inr (7, [.null, .int 0]))]) := hD
  refine W.widen (k := 9) (n := 198) (by omega) (by omega) ?_
  refine lv_dup hx hb dX9_init_63 rfl ?_
  refine lv_iconst (v := 4) hx hb dX9_init_64 (by decide) ?_
  refine ccall (As := [.int 4]) (rest := [.ref q_7, .ref h0]) (k := 7) (X := [(h0, .inr (8, [.int 0, .null, .int 0, .int 0, .int 0, .ref q_1, .ref q_2, .ref q_3, .ref q_4, .ref q_5, .ref q_6, .null, .null, .null]))]) C (c_Row_init l D q_7 H.size 4 4 (by decide +kernel) (by decide +kernel) (by decide +kernel) (by decide +kernel)) (by decide) mc_X8_init (zt_t1 36 rfl rfl) ⟨Nat.le_of_ble_eq_true rfl, Nat.le_of_ble_eq_true rfl⟩ ⟨Nat.le_of_ble_eq_true rfl, Nat.le_of_ble_eq_true rfl⟩ hl.1 (Nat.le_of_ble_eq_true rfl) dX9_init_65 hC hP hD hS hA hAr hK hE (fun K V H locs hC hP hD hS hAr hle hq => ?_)
  have hz := hz.add hle hq
  clear hle hq
  refine W.widen (k := 10) (n := 202) (by omega) (by omega) ?_
  refine va_putF (D := D) (ci := 8) (v := .ref q_7) (ty := .object "CardTables$Row") (C := RX9) (T := TX9) (N := 14) hx hb hts in_8 tyX9 tyX9_ok nmX9 hown hK hP hD hS 0 rfl rfl 11 (by decide) (hts (.fieldLink RX9 37 "CardTables$Table" "layers" "LCardTables$Row;") (zt_t1 178 rfl rfl)) (fun _ h9 => h9) rfl hin rfl (by decide +kernel) rfl rfl (Nat.le_of_ble_eq_true rfl) dX9_init_68 (fun H locs hP hD hS => ?_)
  have hP : va_P D vwCl ([(h0, .inr (8, [.int 0, .null, .int 0, .int 0, .int 0, .ref q_1, .ref q_2, .ref q_3, .ref q_4, .ref q_5, .ref q_6, .ref q_7, .null, .null]))] ++ zW K V) H := hP
  have hD : va_D A ([(h0, .inr (8, [.int 0, .null, .int 0, .int 0, .int 0, .ref q_1, .ref q_2, .ref q_3, .ref q_4, .ref q_5, .ref q_6, .ref q_7, .null, .null]))] ++ zW K V) := hD
  refine lv_aload_n hx hb dX9_init_71 rfl (lv_at hl 0 rfl) ?_
  refine lv_iconst (v := 4) hx hb dX9_init_72 (by decide) ?_
  refine va_newq (C := RX8) (N' := 4) hx hb hown (hts (.classLink RX9 25 RX8) (zt_t1 34 rfl rfl)) hE.2.1 hK hP hD hS hA (by decide +kernel) (by decide +kernel) (by decide +kernel) (Nat.le_of_ble_eq_true rfl) (Nat.le_of_ble_eq_true rfl) dX9_init_73 (fun q_8 cA_8 H hK hP hD hS => ?_)
  have hP := hP.swap (a := [(h0, .inr (8, [.int 0, .null, .int 0, .int 0, .int 0, .ref q_1, .ref q_2, .ref q_3, .ref q_4, .ref q_5, .ref q_6, .ref q_7, .null, .null]))])
  have hD := hD.swap (a := [(h0, .inr (8, [.int 0, .null, .int 0, .int 0, .int 0, .ref q_1, .ref q_2, .ref q_3, .ref q_4, .ref q_5, .ref q_6, .ref q_7, .null, .null]))])
  have hr_q_8 : rfs K 7 (fun _ => none) 0 := rfs.nil
  have hP : va_P D vwCl ([(h0, .inr (8, [.int 0, .null, .int 0, .int 0, .int 0, .ref q_1, .ref q_2, .ref q_3, .ref q_4, .ref q_5, .ref q_6, .ref q_7, .null, .null])), (q_8, .inl (cA_8, 4, .inr (.inr (.inr (.inr (fun _ => none))))))] ++ zW K V) H := hP
  have hD : va_D A ([(h0, .inr (8, [.int 0, .null, .int 0, .int 0, .int 0, .ref q_1, .ref q_2, .ref q_3, .ref q_4, .ref q_5, .ref q_6, .ref q_7, .null, .null])), (q_8, .inl (cA_8, 4, .inr (.inr (.inr (.inr (fun _ => none))))))] ++ zW K V) := hD
  have hK : va_K D vwCl [(cA_8, .object RX8)] s := hK
  refine W.widen (k := 11) (n := 206) (by omega) (by omega) ?_
  refine va_putF (D := D) (ci := 8) (v := .ref q_8) (ty := .array (.object "CardTables$Row")) (C := RX9) (T := TX9) (N := 14) hx hb hts in_8 tyX9 tyX9_ok nmX9 hown hK hP hD hS 0 rfl rfl 12 (by decide) (hts (.fieldLink RX9 40 "CardTables$Table" "hands" "[LCardTables$Row;") (zt_t1 179 rfl rfl)) (fun _ h9 => h9) rfl hin rfl (by decide +kernel) rfl rfl (Nat.le_of_ble_eq_true rfl) dX9_init_76 (fun H locs hP hD hS => ?_)
  have hP : va_P D vwCl ([(h0, .inr (8, [.int 0, .null, .int 0, .int 0, .int 0, .ref q_1, .ref q_2, .ref q_3, .ref q_4, .ref q_5, .ref q_6, .ref q_7, .ref q_8, .null])), (q_8, .inl (cA_8, 4, .inr (.inr (.inr (.inr (fun _ => none))))))] ++ zW K V) H := hP
  have hD : va_D A ([(h0, .inr (8, [.int 0, .null, .int 0, .int 0, .int 0, .ref q_1, .ref q_2, .ref q_3, .ref q_4, .ref q_5, .ref q_6, .ref q_7, .ref q_8, .null])), (q_8, .inl (cA_8, 4, .inr (.inr (.inr (.inr (fun _ => none))))))] ++ zW K V) := hD
  refine lv_aload_n hx hb dX9_init_79 rfl (lv_at hl 0 rfl) ?_
  refine va_new (ci := 1) (fs := [.int 0, .int 0, .int 0, .int 0, .int 0, .int 0, .int 0, .int 0, .int 0, .int 0, .int 0, .null, .null, .null, .null, .null, .null, .null]) (C := RX1) (T := TX1) (N := 18) hx hb hts in_1 tyX1 tyX1_ok hown (hts (.classLink RX9 44 RX1) (zt_t1 61 rfl rfl)) (hts (.instantiable RX1 18) (zt_t1 62 rfl rfl)) (hts (.initialized RX1) (zt_t1 5 rfl rfl)) hK hP hD hS hA rfl (fun j hj => by rcases (show j = 0 ∨ j = 1 ∨ j = 2 ∨ j = 3 ∨ j = 4 ∨ j = 5 ∨ j = 6 ∨ j = 7 ∨ j = 8 ∨ j = 9 ∨ j = 10 ∨ j = 11 ∨ j = 12 ∨ j = 13 ∨ j = 14 ∨ j = 15 ∨ j = 16 ∨ j = 17 by omega) with rfl | rfl | rfl | rfl | rfl | rfl | rfl | rfl | rfl | rfl | rfl | rfl | rfl | rfl | rfl | rfl | rfl | rfl <;> rfl) (Nat.le_of_ble_eq_true rfl) (Nat.le_of_ble_eq_true rfl) dX9_init_80 (fun q_9 H hP hD hS => ?_)
  have hP : va_P D vwCl (([(h0, .inr (8, [.int 0, .null, .int 0, .int 0, .int 0, .ref q_1, .ref q_2, .ref q_3, .ref q_4, .ref q_5, .ref q_6, .ref q_7, .ref q_8, .null])), (q_8, .inl (cA_8, 4, .inr (.inr (.inr (.inr (fun _ => none))))))] ++ zW K V) ++ [(q_9, .inr (1, [.int 0, .int 0, .int 0, .int 0, .int 0, .int 0, .int 0, .int 0, .int 0, .int 0, .int 0, .null, .null, .null, .null, .null, .null, .null]))]) H := hP
  have hD : va_D A (([(h0, .inr (8, [.int 0, .null, .int 0, .int 0, .int 0, .ref q_1, .ref q_2, .ref q_3, .ref q_4, .ref q_5, .ref q_6, .ref q_7, .ref q_8, .null])), (q_8, .inl (cA_8, 4, .inr (.inr (.inr (.inr (fun _ => none))))))] ++ zW K V) ++ [(q_9, .inr (1, [.int 0, .int 0, .int 0, .int 0, .int 0, .int 0, .int 0, .int 0, .int 0, .int 0, .int 0, .null, .null, .null, .null, .null, .null, .null]))]) := hD
  refine W.widen (k := 12) (n := 224) (by omega) (by omega) ?_
  refine lv_dup hx hb dX9_init_83 rfl ?_
  refine ccallN (As := []) (rest := [.ref q_9, .ref h0]) (k := 1) (X := [(h0, .inr (8, [.int 0, .null, .int 0, .int 0, .int 0, .ref q_1, .ref q_2, .ref q_3, .ref q_4, .ref q_5, .ref q_6, .ref q_7, .ref q_8, .null])), (q_8, .inl (cA_8, 4, .inr (.inr (.inr (.inr (fun _ => none))))))]) C (c_Deal_init l D q_9 H.size) (by decide) mc_X1_init hE.2.2.2 ⟨Nat.le_of_ble_eq_true rfl, Nat.le_of_ble_eq_true rfl⟩ ⟨Nat.le_of_ble_eq_true rfl, Nat.le_of_ble_eq_true rfl⟩ hl.1 (Nat.le_of_ble_eq_true rfl) dX9_init_84 hC hP hD hS hA hAr hK hE (fun K V H locs hC hP hD hS hAr hle hq => ?_)
  have hz := hz.add hle hq
  have hr_q_8 := hr_q_8.le hle
  clear hle hq
  refine W.widen (k := 20) (n := 481) (by omega) (by omega) ?_
  refine va_putF (D := D) (ci := 8) (v := .ref q_9) (ty := .object "CardTables$Deal") (C := RX9) (T := TX9) (N := 14) hx hb hts in_8 tyX9 tyX9_ok nmX9 hown hK hP hD hS 0 rfl rfl 13 (by decide) (hts (.fieldLink RX9 47 "CardTables$Table" "deal" "LCardTables$Deal;") (zt_t1 180 rfl rfl)) (fun _ h9 => h9) rfl hin rfl (by decide +kernel) rfl rfl (Nat.le_of_ble_eq_true rfl) dX9_init_87 (fun H locs hP hD hS => ?_)
  have hP : va_P D vwCl ([(h0, .inr (8, [.int 0, .null, .int 0, .int 0, .int 0, .ref q_1, .ref q_2, .ref q_3, .ref q_4, .ref q_5, .ref q_6, .ref q_7, .ref q_8, .ref q_9])), (q_8, .inl (cA_8, 4, .inr (.inr (.inr (.inr (fun _ => none))))))] ++ zW K V) H := hP
  have hD : va_D A ([(h0, .inr (8, [.int 0, .null, .int 0, .int 0, .int 0, .ref q_1, .ref q_2, .ref q_3, .ref q_4, .ref q_5, .ref q_6, .ref q_7, .ref q_8, .ref q_9])), (q_8, .inl (cA_8, 4, .inr (.inr (.inr (.inr (fun _ => none))))))] ++ zW K V) := hD
  refine lv_aload_n hx hb dX9_init_90 rfl (lv_at hl 0 rfl) ?_
  refine lv_iload_n hx hb dX9_init_91 rfl (lv_at hl 1 rfl) ?_
  refine va_putF (D := D) (ci := 8) (v := .int i) (ty := .int) (C := RX9) (T := TX9) (N := 14) hx hb hts in_8 tyX9 tyX9_ok nmX9 hown hK hP hD hS 0 rfl rfl 0 (by decide) (hts (.fieldLink RX9 51 "CardTables$Table" "id" "I") (zt_t1 156 rfl rfl)) (fun _ h9 => h9) rfl hin rfl (by decide +kernel) rfl rfl (Nat.le_of_ble_eq_true rfl) dX9_init_92 (fun H locs hP hD hS => ?_)
  have hP : va_P D vwCl ([(h0, .inr (8, [.int i, .null, .int 0, .int 0, .int 0, .ref q_1, .ref q_2, .ref q_3, .ref q_4, .ref q_5, .ref q_6, .ref q_7, .ref q_8, .ref q_9])), (q_8, .inl (cA_8, 4, .inr (.inr (.inr (.inr (fun _ => none))))))] ++ zW K V) H := hP
  have hD : va_D A ([(h0, .inr (8, [.int i, .null, .int 0, .int 0, .int 0, .ref q_1, .ref q_2, .ref q_3, .ref q_4, .ref q_5, .ref q_6, .ref q_7, .ref q_8, .ref q_9])), (q_8, .inl (cA_8, 4, .inr (.inr (.inr (.inr (fun _ => none))))))] ++ zW K V) := hD
  refine lv_iconst (v := 0) hx hb dX9_init_95 (by decide) ?_
  refine lv_istore_n (lv' := [(2, .int 0), (0, .ref h0), (1, .int i)]) hx hb dX9_init_96 rfl hl (by decide) rfl (fun ls hl => ?_)
  refine lv_iload_n hx hb dX9_init_97 rfl (lv_at hl 0 rfl) ?_
  refine lv_iconst (v := 4) hx hb dX9_init_98 (by decide) ?_
  refine lv_icmp_ge (tgt := 123) hx hb dX9_init_99 (by decide) (fun c_10 => ?_) (fun c_10 => ?_)
  · exact absurd c_10 (by decide +kernel)
  · skip
    refine lv_aload_n hx hb dX9_init_102 rfl (lv_at hl 1 rfl) ?_
    refine va_get (D := D) (ci := 8) (v := .ref q_8) (C := RX9) (T := TX9) (N := 14) hx hb hts in_8 hown hK hP 0 rfl rfl 12 (by decide) (hts (.fieldLink RX9 40 "CardTables$Table" "hands" "[LCardTables$Row;") (zt_t1 179 rfl rfl)) (fun _ h9 => h9) rfl dX9_init_103 ?_
    refine lv_iload_n hx hb dX9_init_106 rfl (lv_at hl 0 rfl) ?_
    refine va_new (ci := 7) (fs := [.null, .int 0]) (C := RX8) (T := TX8) (N := 2) hx hb hts in_7 tyX8 tyX8_ok hown (hts (.classLink RX9 25 RX8) (zt_t1 34 rfl rfl)) (hts (.instantiable RX8 2) (zt_t1 35 rfl rfl)) (hts (.initialized RX8) (zt_t1 3 rfl rfl)) hK hP hD hS hA rfl (fun j hj => by rcases (show j = 0 ∨ j = 1 by omega) with rfl | rfl <;> rfl) (Nat.le_of_ble_eq_true rfl) (Nat.le_of_ble_eq_true rfl) dX9_init_107 (fun q_11 H hP hD hS => ?_)
    have hP : va_P D vwCl (([(h0, .inr (8, [.int i, .null, .int 0, .int 0, .int 0, .ref q_1, .ref q_2, .ref q_3, .ref q_4, .ref q_5, .ref q_6, .ref q_7, .ref q_8, .ref q_9])), (q_8, .inl (cA_8, 4, .inr (.inr (.inr (.inr (fun _ => none))))))] ++ zW K V) ++ [(q_11, .inr (7, [.null, .int 0]))]) H := hP
    have hD : va_D A (([(h0, .inr (8, [.int i, .null, .int 0, .int 0, .int 0, .ref q_1, .ref q_2, .ref q_3, .ref q_4, .ref q_5, .ref q_6, .ref q_7, .ref q_8, .ref q_9])), (q_8, .inl (cA_8, 4, .inr (.inr (.inr (.inr (fun _ => none))))))] ++ zW K V) ++ [(q_11, .inr (7, [.null, .int 0]))]) := hD
    refine W.widen (k := 21) (n := 483) (by omega) (by omega) ?_
    refine lv_dup hx hb dX9_init_110 rfl ?_
    refine lv_bipush (v := 15) hx hb dX9_init_111 (by decide) ?_
    refine ccall (As := [.int 15]) (rest := [.ref q_11, .int 0, .ref q_8]) (k := 7) (X := [(h0, .inr (8, [.int i, .null, .int 0, .int 0, .int 0, .ref q_1, .ref q_2, .ref q_3, .ref q_4, .ref q_5, .ref q_6, .ref q_7, .ref q_8, .ref q_9])), (q_8, .inl (cA_8, 4, .inr (.inr (.inr (.inr (fun _ => none))))))]) C (c_Row_init l D q_11 H.size 15 15 (by decide +kernel) (by decide +kernel) (by decide +kernel) (by decide +kernel)) (by decide) mc_X8_init (zt_t1 36 rfl rfl) ⟨Nat.le_of_ble_eq_true rfl, Nat.le_of_ble_eq_true rfl⟩ ⟨Nat.le_of_ble_eq_true rfl, Nat.le_of_ble_eq_true rfl⟩ hl.1 (Nat.le_of_ble_eq_true rfl) dX9_init_113 hC hP hD hS hA hAr hK hE (fun K V H locs hC hP hD hS hAr hle hq => ?_)
    have hz := hz.add hle hq
    have hr_q_8 := hr_q_8.le hle
    clear hle hq
    refine W.widen (k := 22) (n := 498) (by omega) (by omega) ?_
    have hv := hz.get 0 rfl
    obtain ⟨i_12, hi⟩ := cat (X := [(h0, .inr (8, [.int i, .null, .int 0, .int 0, .int 0, .ref q_1, .ref q_2, .ref q_3, .ref q_4, .ref q_5, .ref q_6, .ref q_7, .ref q_8, .ref q_9])), (q_8, .inl (cA_8, 4, .inr (.inr (.inr (.inr (fun _ => none))))))]) (V := V) hv
    rw [zF_7 hv.2.1] at hi
    refine va_astq hx hb hK hP hD hS 1 0 i_12 7 rfl rfl hi rfl (by unfold vp_in; decide +kernel) dX9_init_116 (fun H locs hP hD hS => ?_)
    have hP : va_P D vwCl ([(h0, .inr (8, [.int i, .null, .int 0, .int 0, .int 0, .ref q_1, .ref q_2, .ref q_3, .ref q_4, .ref q_5, .ref q_6, .ref q_7, .ref q_8, .ref q_9])), (q_8, .inl (cA_8, 4, .inr (.inr (.inr (.inr (va_up (fun _ => none) 0 (some q_11)))))))] ++ zW K V) H := hP
    have hD : va_D A ([(h0, .inr (8, [.int i, .null, .int 0, .int 0, .int 0, .ref q_1, .ref q_2, .ref q_3, .ref q_4, .ref q_5, .ref q_6, .ref q_7, .ref q_8, .ref q_9])), (q_8, .inl (cA_8, 4, .inr (.inr (.inr (.inr (va_up (fun _ => none) 0 (some q_11)))))))] ++ zW K V) := hD
    have hr_q_8 := hr_q_8.push hv
    generalize va_up (fun _ => none) 0 (some q_11) = f_12 at hP hD hr_q_8
    clear hv hi
    have hz : zats K [(q_9, 1, 0), (q_7, 7, 0), (q_6, 7, 0), (q_5, 7, 0), (q_4, 20, 4), (q_3, 21, 4), (q_2, 20, 60), (q_1, 20, 60)] := fun q h => hz q (List.mem_cons_of_mem _ h)
    refine lv_iinc (v := 1) (lv' := [(2, .int 1), (0, .ref h0), (1, .int i)]) hx hb dX9_init_117 hl (k := 0) rfl (by decide) (by decide) rfl (fun ls hl => ?_)
    refine lv_goto (tgt := 97) hx hb dX9_init_120 (by decide) ?_
    refine lv_iload_n hx hb dX9_init_97 rfl (lv_at hl 0 rfl) ?_
    refine lv_iconst (v := 4) hx hb dX9_init_98 (by decide) ?_
    refine lv_icmp_ge (tgt := 123) hx hb dX9_init_99 (by decide) (fun c_14 => ?_) (fun c_14 => ?_)
    · exact absurd c_14 (by decide +kernel)
    · skip
      refine lv_aload_n hx hb dX9_init_102 rfl (lv_at hl 1 rfl) ?_
      refine va_get (D := D) (ci := 8) (v := .ref q_8) (C := RX9) (T := TX9) (N := 14) hx hb hts in_8 hown hK hP 0 rfl rfl 12 (by decide) (hts (.fieldLink RX9 40 "CardTables$Table" "hands" "[LCardTables$Row;") (zt_t1 179 rfl rfl)) (fun _ h9 => h9) rfl dX9_init_103 ?_
      refine lv_iload_n hx hb dX9_init_106 rfl (lv_at hl 0 rfl) ?_
      refine va_new (ci := 7) (fs := [.null, .int 0]) (C := RX8) (T := TX8) (N := 2) hx hb hts in_7 tyX8 tyX8_ok hown (hts (.classLink RX9 25 RX8) (zt_t1 34 rfl rfl)) (hts (.instantiable RX8 2) (zt_t1 35 rfl rfl)) (hts (.initialized RX8) (zt_t1 3 rfl rfl)) hK hP hD hS hA rfl (fun j hj => by rcases (show j = 0 ∨ j = 1 by omega) with rfl | rfl <;> rfl) (Nat.le_of_ble_eq_true rfl) (Nat.le_of_ble_eq_true rfl) dX9_init_107 (fun q_15 H hP hD hS => ?_)
      have hP : va_P D vwCl (([(h0, .inr (8, [.int i, .null, .int 0, .int 0, .int 0, .ref q_1, .ref q_2, .ref q_3, .ref q_4, .ref q_5, .ref q_6, .ref q_7, .ref q_8, .ref q_9])), (q_8, .inl (cA_8, 4, .inr (.inr (.inr (.inr f_12)))))] ++ zW K V) ++ [(q_15, .inr (7, [.null, .int 0]))]) H := hP
      have hD : va_D A (([(h0, .inr (8, [.int i, .null, .int 0, .int 0, .int 0, .ref q_1, .ref q_2, .ref q_3, .ref q_4, .ref q_5, .ref q_6, .ref q_7, .ref q_8, .ref q_9])), (q_8, .inl (cA_8, 4, .inr (.inr (.inr (.inr f_12)))))] ++ zW K V) ++ [(q_15, .inr (7, [.null, .int 0]))]) := hD
      refine W.widen (k := 23) (n := 500) (by omega) (by omega) ?_
      refine lv_dup hx hb dX9_init_110 rfl ?_
      refine lv_bipush (v := 15) hx hb dX9_init_111 (by decide) ?_
      refine ccall (As := [.int 15]) (rest := [.ref q_15, .int 1, .ref q_8]) (k := 7) (X := [(h0, .inr (8, [.int i, .null, .int 0, .int 0, .int 0, .ref q_1, .ref q_2, .ref q_3, .ref q_4, .ref q_5, .ref q_6, .ref q_7, .ref q_8, .ref q_9])), (q_8, .inl (cA_8, 4, .inr (.inr (.inr (.inr f_12)))))]) C (c_Row_init l D q_15 H.size 15 15 (by decide +kernel) (by decide +kernel) (by decide +kernel) (by decide +kernel)) (by decide) mc_X8_init (zt_t1 36 rfl rfl) ⟨Nat.le_of_ble_eq_true rfl, Nat.le_of_ble_eq_true rfl⟩ ⟨Nat.le_of_ble_eq_true rfl, Nat.le_of_ble_eq_true rfl⟩ hl.1 (Nat.le_of_ble_eq_true rfl) dX9_init_113 hC hP hD hS hA hAr hK hE (fun K V H locs hC hP hD hS hAr hle hq => ?_)
      have hz := hz.add hle hq
      have hr_q_8 := hr_q_8.le hle
      clear hle hq
      refine W.widen (k := 24) (n := 515) (by omega) (by omega) ?_
      have hv := hz.get 0 rfl
      obtain ⟨i_16, hi⟩ := cat (X := [(h0, .inr (8, [.int i, .null, .int 0, .int 0, .int 0, .ref q_1, .ref q_2, .ref q_3, .ref q_4, .ref q_5, .ref q_6, .ref q_7, .ref q_8, .ref q_9])), (q_8, .inl (cA_8, 4, .inr (.inr (.inr (.inr f_12)))))]) (V := V) hv
      rw [zF_7 hv.2.1] at hi
      refine va_astq hx hb hK hP hD hS 1 0 i_16 7 rfl rfl hi rfl (by unfold vp_in; decide +kernel) dX9_init_116 (fun H locs hP hD hS => ?_)
      have hP : va_P D vwCl ([(h0, .inr (8, [.int i, .null, .int 0, .int 0, .int 0, .ref q_1, .ref q_2, .ref q_3, .ref q_4, .ref q_5, .ref q_6, .ref q_7, .ref q_8, .ref q_9])), (q_8, .inl (cA_8, 4, .inr (.inr (.inr (.inr (va_up f_12 1 (some q_15)))))))] ++ zW K V) H := hP
      have hD : va_D A ([(h0, .inr (8, [.int i, .null, .int 0, .int 0, .int 0, .ref q_1, .ref q_2, .ref q_3, .ref q_4, .ref q_5, .ref q_6, .ref q_7, .ref q_8, .ref q_9])), (q_8, .inl (cA_8, 4, .inr (.inr (.inr (.inr (va_up f_12 1 (some q_15)))))))] ++ zW K V) := hD
      have hr_q_8 := hr_q_8.push hv
      generalize va_up f_12 1 (some q_15) = f_16 at hP hD hr_q_8
      clear hv hi
      have hz : zats K [(q_9, 1, 0), (q_7, 7, 0), (q_6, 7, 0), (q_5, 7, 0), (q_4, 20, 4), (q_3, 21, 4), (q_2, 20, 60), (q_1, 20, 60)] := fun q h => hz q (List.mem_cons_of_mem _ h)
      refine lv_iinc (v := 2) (lv' := [(2, .int 2), (0, .ref h0), (1, .int i)]) hx hb dX9_init_117 hl (k := 0) rfl (by decide) (by decide) rfl (fun ls hl => ?_)
      refine lv_goto (tgt := 97) hx hb dX9_init_120 (by decide) ?_
      refine lv_iload_n hx hb dX9_init_97 rfl (lv_at hl 0 rfl) ?_
      refine lv_iconst (v := 4) hx hb dX9_init_98 (by decide) ?_
      refine lv_icmp_ge (tgt := 123) hx hb dX9_init_99 (by decide) (fun c_18 => ?_) (fun c_18 => ?_)
      · exact absurd c_18 (by decide +kernel)
      · skip
        refine lv_aload_n hx hb dX9_init_102 rfl (lv_at hl 1 rfl) ?_
        refine va_get (D := D) (ci := 8) (v := .ref q_8) (C := RX9) (T := TX9) (N := 14) hx hb hts in_8 hown hK hP 0 rfl rfl 12 (by decide) (hts (.fieldLink RX9 40 "CardTables$Table" "hands" "[LCardTables$Row;") (zt_t1 179 rfl rfl)) (fun _ h9 => h9) rfl dX9_init_103 ?_
        refine lv_iload_n hx hb dX9_init_106 rfl (lv_at hl 0 rfl) ?_
        refine va_new (ci := 7) (fs := [.null, .int 0]) (C := RX8) (T := TX8) (N := 2) hx hb hts in_7 tyX8 tyX8_ok hown (hts (.classLink RX9 25 RX8) (zt_t1 34 rfl rfl)) (hts (.instantiable RX8 2) (zt_t1 35 rfl rfl)) (hts (.initialized RX8) (zt_t1 3 rfl rfl)) hK hP hD hS hA rfl (fun j hj => by rcases (show j = 0 ∨ j = 1 by omega) with rfl | rfl <;> rfl) (Nat.le_of_ble_eq_true rfl) (Nat.le_of_ble_eq_true rfl) dX9_init_107 (fun q_19 H hP hD hS => ?_)
        have hP : va_P D vwCl (([(h0, .inr (8, [.int i, .null, .int 0, .int 0, .int 0, .ref q_1, .ref q_2, .ref q_3, .ref q_4, .ref q_5, .ref q_6, .ref q_7, .ref q_8, .ref q_9])), (q_8, .inl (cA_8, 4, .inr (.inr (.inr (.inr f_16)))))] ++ zW K V) ++ [(q_19, .inr (7, [.null, .int 0]))]) H := hP
        have hD : va_D A (([(h0, .inr (8, [.int i, .null, .int 0, .int 0, .int 0, .ref q_1, .ref q_2, .ref q_3, .ref q_4, .ref q_5, .ref q_6, .ref q_7, .ref q_8, .ref q_9])), (q_8, .inl (cA_8, 4, .inr (.inr (.inr (.inr f_16)))))] ++ zW K V) ++ [(q_19, .inr (7, [.null, .int 0]))]) := hD
        refine W.widen (k := 25) (n := 517) (by omega) (by omega) ?_
        refine lv_dup hx hb dX9_init_110 rfl ?_
        refine lv_bipush (v := 15) hx hb dX9_init_111 (by decide) ?_
        refine ccall (As := [.int 15]) (rest := [.ref q_19, .int 2, .ref q_8]) (k := 7) (X := [(h0, .inr (8, [.int i, .null, .int 0, .int 0, .int 0, .ref q_1, .ref q_2, .ref q_3, .ref q_4, .ref q_5, .ref q_6, .ref q_7, .ref q_8, .ref q_9])), (q_8, .inl (cA_8, 4, .inr (.inr (.inr (.inr f_16)))))]) C (c_Row_init l D q_19 H.size 15 15 (by decide +kernel) (by decide +kernel) (by decide +kernel) (by decide +kernel)) (by decide) mc_X8_init (zt_t1 36 rfl rfl) ⟨Nat.le_of_ble_eq_true rfl, Nat.le_of_ble_eq_true rfl⟩ ⟨Nat.le_of_ble_eq_true rfl, Nat.le_of_ble_eq_true rfl⟩ hl.1 (Nat.le_of_ble_eq_true rfl) dX9_init_113 hC hP hD hS hA hAr hK hE (fun K V H locs hC hP hD hS hAr hle hq => ?_)
        have hz := hz.add hle hq
        have hr_q_8 := hr_q_8.le hle
        clear hle hq
        refine W.widen (k := 26) (n := 532) (by omega) (by omega) ?_
        have hv := hz.get 0 rfl
        obtain ⟨i_20, hi⟩ := cat (X := [(h0, .inr (8, [.int i, .null, .int 0, .int 0, .int 0, .ref q_1, .ref q_2, .ref q_3, .ref q_4, .ref q_5, .ref q_6, .ref q_7, .ref q_8, .ref q_9])), (q_8, .inl (cA_8, 4, .inr (.inr (.inr (.inr f_16)))))]) (V := V) hv
        rw [zF_7 hv.2.1] at hi
        refine va_astq hx hb hK hP hD hS 1 0 i_20 7 rfl rfl hi rfl (by unfold vp_in; decide +kernel) dX9_init_116 (fun H locs hP hD hS => ?_)
        have hP : va_P D vwCl ([(h0, .inr (8, [.int i, .null, .int 0, .int 0, .int 0, .ref q_1, .ref q_2, .ref q_3, .ref q_4, .ref q_5, .ref q_6, .ref q_7, .ref q_8, .ref q_9])), (q_8, .inl (cA_8, 4, .inr (.inr (.inr (.inr (va_up f_16 2 (some q_19)))))))] ++ zW K V) H := hP
        have hD : va_D A ([(h0, .inr (8, [.int i, .null, .int 0, .int 0, .int 0, .ref q_1, .ref q_2, .ref q_3, .ref q_4, .ref q_5, .ref q_6, .ref q_7, .ref q_8, .ref q_9])), (q_8, .inl (cA_8, 4, .inr (.inr (.inr (.inr (va_up f_16 2 (some q_19)))))))] ++ zW K V) := hD
        have hr_q_8 := hr_q_8.push hv
        generalize va_up f_16 2 (some q_19) = f_20 at hP hD hr_q_8
        clear hv hi
        have hz : zats K [(q_9, 1, 0), (q_7, 7, 0), (q_6, 7, 0), (q_5, 7, 0), (q_4, 20, 4), (q_3, 21, 4), (q_2, 20, 60), (q_1, 20, 60)] := fun q h => hz q (List.mem_cons_of_mem _ h)
        refine lv_iinc (v := 3) (lv' := [(2, .int 3), (0, .ref h0), (1, .int i)]) hx hb dX9_init_117 hl (k := 0) rfl (by decide) (by decide) rfl (fun ls hl => ?_)
        refine lv_goto (tgt := 97) hx hb dX9_init_120 (by decide) ?_
        refine lv_iload_n hx hb dX9_init_97 rfl (lv_at hl 0 rfl) ?_
        refine lv_iconst (v := 4) hx hb dX9_init_98 (by decide) ?_
        refine lv_icmp_ge (tgt := 123) hx hb dX9_init_99 (by decide) (fun c_22 => ?_) (fun c_22 => ?_)
        · exact absurd c_22 (by decide +kernel)
        · skip
          refine lv_aload_n hx hb dX9_init_102 rfl (lv_at hl 1 rfl) ?_
          refine va_get (D := D) (ci := 8) (v := .ref q_8) (C := RX9) (T := TX9) (N := 14) hx hb hts in_8 hown hK hP 0 rfl rfl 12 (by decide) (hts (.fieldLink RX9 40 "CardTables$Table" "hands" "[LCardTables$Row;") (zt_t1 179 rfl rfl)) (fun _ h9 => h9) rfl dX9_init_103 ?_
          refine lv_iload_n hx hb dX9_init_106 rfl (lv_at hl 0 rfl) ?_
          refine va_new (ci := 7) (fs := [.null, .int 0]) (C := RX8) (T := TX8) (N := 2) hx hb hts in_7 tyX8 tyX8_ok hown (hts (.classLink RX9 25 RX8) (zt_t1 34 rfl rfl)) (hts (.instantiable RX8 2) (zt_t1 35 rfl rfl)) (hts (.initialized RX8) (zt_t1 3 rfl rfl)) hK hP hD hS hA rfl (fun j hj => by rcases (show j = 0 ∨ j = 1 by omega) with rfl | rfl <;> rfl) (Nat.le_of_ble_eq_true rfl) (Nat.le_of_ble_eq_true rfl) dX9_init_107 (fun q_23 H hP hD hS => ?_)
          have hP : va_P D vwCl (([(h0, .inr (8, [.int i, .null, .int 0, .int 0, .int 0, .ref q_1, .ref q_2, .ref q_3, .ref q_4, .ref q_5, .ref q_6, .ref q_7, .ref q_8, .ref q_9])), (q_8, .inl (cA_8, 4, .inr (.inr (.inr (.inr f_20)))))] ++ zW K V) ++ [(q_23, .inr (7, [.null, .int 0]))]) H := hP
          have hD : va_D A (([(h0, .inr (8, [.int i, .null, .int 0, .int 0, .int 0, .ref q_1, .ref q_2, .ref q_3, .ref q_4, .ref q_5, .ref q_6, .ref q_7, .ref q_8, .ref q_9])), (q_8, .inl (cA_8, 4, .inr (.inr (.inr (.inr f_20)))))] ++ zW K V) ++ [(q_23, .inr (7, [.null, .int 0]))]) := hD
          refine W.widen (k := 27) (n := 534) (by omega) (by omega) ?_
          refine lv_dup hx hb dX9_init_110 rfl ?_
          refine lv_bipush (v := 15) hx hb dX9_init_111 (by decide) ?_
          refine ccall (As := [.int 15]) (rest := [.ref q_23, .int 3, .ref q_8]) (k := 7) (X := [(h0, .inr (8, [.int i, .null, .int 0, .int 0, .int 0, .ref q_1, .ref q_2, .ref q_3, .ref q_4, .ref q_5, .ref q_6, .ref q_7, .ref q_8, .ref q_9])), (q_8, .inl (cA_8, 4, .inr (.inr (.inr (.inr f_20)))))]) C (c_Row_init l D q_23 H.size 15 15 (by decide +kernel) (by decide +kernel) (by decide +kernel) (by decide +kernel)) (by decide) mc_X8_init (zt_t1 36 rfl rfl) ⟨Nat.le_of_ble_eq_true rfl, Nat.le_of_ble_eq_true rfl⟩ ⟨Nat.le_of_ble_eq_true rfl, Nat.le_of_ble_eq_true rfl⟩ hl.1 (Nat.le_of_ble_eq_true rfl) dX9_init_113 hC hP hD hS hA hAr hK hE (fun K V H locs hC hP hD hS hAr hle hq => ?_)
          have hz := hz.add hle hq
          have hr_q_8 := hr_q_8.le hle
          clear hle hq
          refine W.widen (k := 28) (n := 549) (by omega) (by omega) ?_
          have hv := hz.get 0 rfl
          obtain ⟨i_24, hi⟩ := cat (X := [(h0, .inr (8, [.int i, .null, .int 0, .int 0, .int 0, .ref q_1, .ref q_2, .ref q_3, .ref q_4, .ref q_5, .ref q_6, .ref q_7, .ref q_8, .ref q_9])), (q_8, .inl (cA_8, 4, .inr (.inr (.inr (.inr f_20)))))]) (V := V) hv
          rw [zF_7 hv.2.1] at hi
          refine va_astq hx hb hK hP hD hS 1 0 i_24 7 rfl rfl hi rfl (by unfold vp_in; decide +kernel) dX9_init_116 (fun H locs hP hD hS => ?_)
          have hP : va_P D vwCl ([(h0, .inr (8, [.int i, .null, .int 0, .int 0, .int 0, .ref q_1, .ref q_2, .ref q_3, .ref q_4, .ref q_5, .ref q_6, .ref q_7, .ref q_8, .ref q_9])), (q_8, .inl (cA_8, 4, .inr (.inr (.inr (.inr (va_up f_20 3 (some q_23)))))))] ++ zW K V) H := hP
          have hD : va_D A ([(h0, .inr (8, [.int i, .null, .int 0, .int 0, .int 0, .ref q_1, .ref q_2, .ref q_3, .ref q_4, .ref q_5, .ref q_6, .ref q_7, .ref q_8, .ref q_9])), (q_8, .inl (cA_8, 4, .inr (.inr (.inr (.inr (va_up f_20 3 (some q_23)))))))] ++ zW K V) := hD
          have hr_q_8 := hr_q_8.push hv
          generalize va_up f_20 3 (some q_23) = f_24 at hP hD hr_q_8
          clear hv hi
          have hz : zats K [(q_9, 1, 0), (q_7, 7, 0), (q_6, 7, 0), (q_5, 7, 0), (q_4, 20, 4), (q_3, 21, 4), (q_2, 20, 60), (q_1, 20, 60)] := fun q h => hz q (List.mem_cons_of_mem _ h)
          refine lv_iinc (v := 4) (lv' := [(2, .int 4), (0, .ref h0), (1, .int i)]) hx hb dX9_init_117 hl (k := 0) rfl (by decide) (by decide) rfl (fun ls hl => ?_)
          refine lv_goto (tgt := 97) hx hb dX9_init_120 (by decide) ?_
          refine lv_iload_n hx hb dX9_init_97 rfl (lv_at hl 0 rfl) ?_
          refine lv_iconst (v := 4) hx hb dX9_init_98 (by decide) ?_
          refine lv_icmp_ge (tgt := 123) hx hb dX9_init_99 (by decide) (fun c_26 => ?_) (fun c_26 => ?_)
          · skip
            obtain ⟨K, V, hC, hP, hD, hAr, hle, hq⟩ := cpush23 (X := [(h0, .inr (8, [.int i, .null, .int 0, .int 0, .int 0, .ref q_1, .ref q_2, .ref q_3, .ref q_4, .ref q_5, .ref q_6, .ref q_7, .ref q_8, .ref q_9]))]) hC hP hD hr_q_8 (by decide) hAr (hK.2 0 _ rfl)
            have hz := hz.add hle hq
            clear hle hq
            have hR : ∀ j k' n', zX 8 j = some (k', n') → zat K ((fun j => ([0, 0, 0, 0, 0, q_1, q_2, q_3, q_4, q_5, q_6, q_7, q_8, q_9] : List Nat).getD j 0) j) k' n' := by
              refine zXf (P := fun j k' n' => zat K ((fun j => ([0, 0, 0, 0, 0, q_1, q_2, q_3, q_4, q_5, q_6, q_7, q_8, q_9] : List Nat).getD j 0) j) k' n') 8 [(8, 5, 20, 60), (8, 6, 20, 60), (8, 7, 21, 4), (8, 8, 20, 4), (8, 9, 7, 0), (8, 10, 7, 0), (8, 11, 7, 0), (8, 12, 23, 4), (8, 13, 1, 0)] (by decide) (fun q hq => ?_)
              simp only [List.mem_cons, List.not_mem_nil, or_false] at hq
              rcases hq with rfl | rfl | rfl | rfl | rfl | rfl | rfl | rfl | rfl
              · exact hz.get 8 rfl
              · exact hz.get 7 rfl
              · exact hz.get 6 rfl
              · exact hz.get 5 rfl
              · exact hz.get 4 rfl
              · exact hz.get 3 rfl
              · exact hz.get 2 rfl
              · exact hz.get 0 rfl
              · exact hz.get 1 rfl
            obtain ⟨K, V, ⟨hC, hP, hD, hAr, hle, hq⟩, hzr⟩ := cpushO (X := []) (k := 8) (by decide) hC hP hD (fun j => ([0, 0, 0, 0, 0, q_1, q_2, q_3, q_4, q_5, q_6, q_7, q_8, q_9] : List Nat).getD j 0) (fun j => ([i, 0, 0, 0, 0, 0, 0, 0, 0, 0, 0, 0, 0, 0] : List Int32).getD j 0) (fun K' V' h1 h2 h3 h4 => by rw [zF_8 h1, h2, h3, h4] <;> rfl) hR zi15 zi4 hAr
            refine W.widen (k := 28) (n := 549) (by omega) (by omega) ?_
            exact cend hx hb hr hlocks hAe hC ⟨fun _ => rfl, fun h => by cases h⟩ hP hD hS hAr hq dX9_init_123
          · exact absurd c_26 (by decide +kernel)
