theorem mc_X2_init : zmC yX2_init cX2_init 2 0 := ⟨⟨zt_t1 7 rfl rfl, zt_t2 8 rfl rfl, by decide, by decide, by decide +kernel⟩, zt_t2 7 rfl rfl, rfl⟩
set_option maxHeartbeats 4000000 in
set_option maxRecDepth 100000 in
theorem c_Ends_init (l : Launch) (D : va_G) (h0 sz : Nat) : Met l yX2_init (zc yX2_init cX2_init 2 none) (rmc 2 37 41997) (va_Pc [.ref h0] (cP D h0 sz (.inr (2, [.null, .null, .null, .null, .null, .null, .null, .null, .null, .int 0, .int 0, .int 0, .int 0, .int 0])))) (cQ D 2 h0 sz (.inr (2, [.null, .null, .null, .null, .null, .null, .null, .null, .null, .int 0, .int 0, .int 0, .int 0, .int 0]))) 37 41997 (va_A [(h0, .inr (2, [.null, .null, .null, .null, .null, .null, .null, .null, .null, .int 0, .int 0, .int 0, .int 0, .int 0]))] sz) := by
  refine cin (by decide) (Nat.le_of_ble_eq_true rfl) ?_
  intro p e s m args below meth c ls A hsz hAe C hr hlocks hnm hK hE hP hD hA hS hl
  subst hsz
  have C : CallFix p m c cX2_init 2 s args zw RX2 := C
  obtain ⟨hx, hb, hml, hown, hts⟩ := id C
  have hin : meth.name = "<init>" := hnm
  obtain ⟨K, V, hC, hP, hD, hAr⟩ : ∃ (K : zK) (V : zV), zC K V ∧ va_P D vwCl ([(h0, .inr (2, [.null, .null, .null, .null, .null, .null, .null, .null, .null, .int 0, .int 0, .int 0, .int 0, .int 0]))] ++ zW K V) s.heap ∧ va_D A ([(h0, .inr (2, [.null, .null, .null, .null, .null, .null, .null, .null, .null, .int 0, .int 0, .int 0, .int 0, .int 0]))] ++ zW K V) ∧ zAr K s := ⟨kE, vE, kE_C, hP, hD, kE_Ar s⟩
  have hz : zats K [] := zats.nil
  have hl : lv_has ls 2 [(0, .ref h0)] := hl
  refine lv_aload_n hx hb dX2_init_0 rfl (lv_at hl 0 rfl) ?_
  refine W.objInit hx hb hown (hts (.methodLink RX2 3 objectInit) (zt_t2 9 rfl rfl)) (hts (.instanceMethod objectInit) (zt_t1 23 rfl rfl)) (hts (.code objectInit ⟨#[0xb1]⟩ 1 none) (zt_t1 24 rfl rfl)) rfl (by rw [hml]; exact hl.1) rfl dX2_init_1 (Nat.le_of_ble_eq_true rfl) (Nat.le_of_ble_eq_true rfl) ?_
  refine W.eq (g2 := F0 m 4 ls []) rfl ?_
  refine lv_aload_n hx hb dX2_init_4 rfl (lv_at hl 0 rfl) ?_
  refine va_new (ci := 5) (fs := [.int 0, .null, .null, .int 0, .int 0, .int 0, .int 0]) (C := RX6) (T := TX6) (N := 7) hx hb hts in_5 tyX6 tyX6_ok hown (hts (.classLink RX2 9 RX6) (zt_t2 10 rfl rfl)) (hts (.instantiable RX6 7) (zt_t1 214 rfl rfl)) (hts (.initialized RX6) (zt_t1 6 rfl rfl)) hK hP hD hS hA rfl (fun j hj => by rcases (show j = 0 ∨ j = 1 ∨ j = 2 ∨ j = 3 ∨ j = 4 ∨ j = 5 ∨ j = 6 by omega) with rfl | rfl | rfl | rfl | rfl | rfl | rfl <;> rfl) (Nat.le_of_ble_eq_true rfl) (Nat.le_of_ble_eq_true rfl) dX2_init_5 (fun q_1 H hP hD hS => ?_)
  have hP : va_P D vwCl (([(h0, .inr (2, [.null, .null, .null, .null, .null, .null, .null, .null, .null, .int 0, .int 0, .int 0, .int 0, .int 0]))] ++ zW K V) ++ [(q_1, .inr (5, [.int 0, .null, .null, .int 0, .int 0, .int 0, .int 0]))]) H := hP
  have hD : va_D A (([(h0, .inr (2, [.null, .null, .null, .null, .null, .null, .null, .null, .null, .int 0, .int 0, .int 0, .int 0, .int 0]))] ++ zW K V) ++ [(q_1, .inr (5, [.int 0, .null, .null, .int 0, .int 0, .int 0, .int 0]))]) := hD
  refine W.widen (k := 1) (n := 7) (by omega) (by omega) ?_
  refine lv_dup hx hb dX2_init_8 rfl ?_
  refine lv_iconst (v := 1) hx hb dX2_init_9 (by decide) ?_
  refine ccall (As := [.int 1]) (rest := [.ref q_1, .ref h0]) (k := 5) (X := [(h0, .inr (2, [.null, .null, .null, .null, .null, .null, .null, .null, .null, .int 0, .int 0, .int 0, .int 0, .int 0]))]) C (c_Notes_init l D q_1 H.size 1 (by decide +kernel) (by decide +kernel)) (by decide) mc_X6_init (zt_t2 11 rfl rfl) ⟨Nat.le_of_ble_eq_true rfl, Nat.le_of_ble_eq_true rfl⟩ ⟨Nat.le_of_ble_eq_true rfl, Nat.le_of_ble_eq_true rfl⟩ hl.1 (Nat.le_of_ble_eq_true rfl) dX2_init_10 hC hP hD hS hA hAr hK hE (fun K V H locs hC hP hD hS hAr hle hq => ?_)
  have hz := hz.add hle hq
  clear hle hq
  refine W.widen (k := 3) (n := 367) (by omega) (by omega) ?_
  refine va_putF (D := D) (ci := 2) (v := .ref q_1) (ty := .object "CardTables$Notes") (C := RX2) (T := TX2) (N := 14) hx hb hts in_2 tyX2 tyX2_ok nmX2 hown hK hP hD hS 0 rfl rfl 0 (by decide) (hts (.fieldLink RX2 14 "CardTables$Ends" "quiet" "LCardTables$Notes;") (zt_t2 14 rfl rfl)) (fun _ h9 => h9) rfl hin rfl (by decide +kernel) rfl rfl (Nat.le_of_ble_eq_true rfl) dX2_init_13 (fun H locs hP hD hS => ?_)
  have hP : va_P D vwCl ([(h0, .inr (2, [.ref q_1, .null, .null, .null, .null, .null, .null, .null, .null, .int 0, .int 0, .int 0, .int 0, .int 0]))] ++ zW K V) H := hP
  have hD : va_D A ([(h0, .inr (2, [.ref q_1, .null, .null, .null, .null, .null, .null, .null, .null, .int 0, .int 0, .int 0, .int 0, .int 0]))] ++ zW K V) := hD
  refine lv_aload_n hx hb dX2_init_16 rfl (lv_at hl 0 rfl) ?_
  refine lv_sipush (v := 20736) hx hb dX2_init_17 (by decide) ?_
  refine va_newa (atype := .int) (a0 := (20736, .inl (fun _ => 0))) (N' := 20736) (ty := .int) hx hb (hts (.arrayClass .int) (zt_t1 58 rfl rfl)) rfl hK hP hD hS hA (fun _ => rfl) (by decide +kernel) (by decide +kernel) (by decide +kernel) (Nat.le_of_ble_eq_true rfl) (Nat.le_of_ble_eq_true rfl) dX2_init_20 (fun q_2 cA_2 H hK hP hD hS => ?_)
  have hA1 := hK.2 0 _ rfl
  have hK := hK.sub (tys' := []) [] rfl
  obtain ⟨K, V, hC, hP, hD, hAr, hle, hq⟩ := cnewE (X := [(h0, .inr (2, [.ref q_1, .null, .null, .null, .null, .null, .null, .null, .null, .int 0, .int 0, .int 0, .int 0, .int 0]))]) (k := 20) hC rfl (by decide) (fun h => by cases h) rfl hP hD hAr hA1
  have hz := hz.add hle hq
  clear hle hq
  refine W.widen (k := 4) (n := 21103) (by omega) (by omega) ?_
  refine va_putF (D := D) (ci := 2) (v := .ref q_2) (ty := .array .int) (C := RX2) (T := TX2) (N := 14) hx hb hts in_2 tyX2 tyX2_ok nmX2 hown hK hP hD hS 0 rfl rfl 1 (by decide) (hts (.fieldLink RX2 20 "CardTables$Ends" "bounds" "[I") (zt_t2 15 rfl rfl)) (fun _ h9 => h9) rfl hin rfl (by decide +kernel) rfl rfl (Nat.le_of_ble_eq_true rfl) dX2_init_22 (fun H locs hP hD hS => ?_)
  have hP : va_P D vwCl ([(h0, .inr (2, [.ref q_1, .ref q_2, .null, .null, .null, .null, .null, .null, .null, .int 0, .int 0, .int 0, .int 0, .int 0]))] ++ zW K V) H := hP
  have hD : va_D A ([(h0, .inr (2, [.ref q_1, .ref q_2, .null, .null, .null, .null, .null, .null, .null, .int 0, .int 0, .int 0, .int 0, .int 0]))] ++ zW K V) := hD
  refine lv_aload_n hx hb dX2_init_25 rfl (lv_at hl 0 rfl) ?_
  refine lv_sipush (v := 20736) hx hb dX2_init_26 (by decide) ?_
  refine va_newa (atype := .int) (a0 := (20736, .inl (fun _ => 0))) (N' := 20736) (ty := .int) hx hb (hts (.arrayClass .int) (zt_t1 58 rfl rfl)) rfl hK hP hD hS hA (fun _ => rfl) (by decide +kernel) (by decide +kernel) (by decide +kernel) (Nat.le_of_ble_eq_true rfl) (Nat.le_of_ble_eq_true rfl) dX2_init_29 (fun q_3 cA_3 H hK hP hD hS => ?_)
  have hA1 := hK.2 0 _ rfl
  have hK := hK.sub (tys' := []) [] rfl
  obtain ⟨K, V, hC, hP, hD, hAr, hle, hq⟩ := cnewE (X := [(h0, .inr (2, [.ref q_1, .ref q_2, .null, .null, .null, .null, .null, .null, .null, .int 0, .int 0, .int 0, .int 0, .int 0]))]) (k := 20) hC rfl (by decide) (fun h => by cases h) rfl hP hD hAr hA1
  have hz := hz.add hle hq
  clear hle hq
  refine W.widen (k := 5) (n := 41839) (by omega) (by omega) ?_
  refine va_putF (D := D) (ci := 2) (v := .ref q_3) (ty := .array .int) (C := RX2) (T := TX2) (N := 14) hx hb hts in_2 tyX2 tyX2_ok nmX2 hown hK hP hD hS 0 rfl rfl 2 (by decide) (hts (.fieldLink RX2 24 "CardTables$Ends" "sures" "[I") (zt_t2 16 rfl rfl)) (fun _ h9 => h9) rfl hin rfl (by decide +kernel) rfl rfl (Nat.le_of_ble_eq_true rfl) dX2_init_31 (fun H locs hP hD hS => ?_)
  have hP : va_P D vwCl ([(h0, .inr (2, [.ref q_1, .ref q_2, .ref q_3, .null, .null, .null, .null, .null, .null, .int 0, .int 0, .int 0, .int 0, .int 0]))] ++ zW K V) H := hP
  have hD : va_D A ([(h0, .inr (2, [.ref q_1, .ref q_2, .ref q_3, .null, .null, .null, .null, .null, .null, .int 0, .int 0, .int 0, .int 0, .int 0]))] ++ zW K V) := hD
  refine lv_aload_n hx hb dX2_init_34 rfl (lv_at hl 0 rfl) ?_
  refine lv_bipush (v := 60) hx hb dX2_init_35 (by decide) ?_
  refine va_newa (atype := .int) (a0 := (60, .inl (fun _ => 0))) (N' := 60) (ty := .int) hx hb (hts (.arrayClass .int) (zt_t1 58 rfl rfl)) rfl hK hP hD hS hA (fun _ => rfl) (by decide +kernel) (by decide +kernel) (by decide +kernel) (Nat.le_of_ble_eq_true rfl) (Nat.le_of_ble_eq_true rfl) dX2_init_37 (fun q_4 cA_4 H hK hP hD hS => ?_)
  have hA1 := hK.2 0 _ rfl
  have hK := hK.sub (tys' := []) [] rfl
  obtain ⟨K, V, hC, hP, hD, hAr, hle, hq⟩ := cnewE (X := [(h0, .inr (2, [.ref q_1, .ref q_2, .ref q_3, .null, .null, .null, .null, .null, .null, .int 0, .int 0, .int 0, .int 0, .int 0]))]) (k := 20) hC rfl (by decide) (fun h => by cases h) rfl hP hD hAr hA1
  have hz := hz.add hle hq
  clear hle hq
  refine W.widen (k := 6) (n := 41899) (by omega) (by omega) ?_
  refine va_putF (D := D) (ci := 2) (v := .ref q_4) (ty := .array .int) (C := RX2) (T := TX2) (N := 14) hx hb hts in_2 tyX2 tyX2_ok nmX2 hown hK hP hD hS 0 rfl rfl 3 (by decide) (hts (.fieldLink RX2 27 "CardTables$Ends" "bits" "[I") (zt_t2 17 rfl rfl)) (fun _ h9 => h9) rfl hin rfl (by decide +kernel) rfl rfl (Nat.le_of_ble_eq_true rfl) dX2_init_39 (fun H locs hP hD hS => ?_)
  have hP : va_P D vwCl ([(h0, .inr (2, [.ref q_1, .ref q_2, .ref q_3, .ref q_4, .null, .null, .null, .null, .null, .int 0, .int 0, .int 0, .int 0, .int 0]))] ++ zW K V) H := hP
  have hD : va_D A ([(h0, .inr (2, [.ref q_1, .ref q_2, .ref q_3, .ref q_4, .null, .null, .null, .null, .null, .int 0, .int 0, .int 0, .int 0, .int 0]))] ++ zW K V) := hD
  refine lv_aload_n hx hb dX2_init_42 rfl (lv_at hl 0 rfl) ?_
  refine lv_iconst (v := 4) hx hb dX2_init_43 (by decide) ?_
  refine va_newq (C := RX8) (N' := 4) hx hb hown (hts (.classLink RX2 30 RX8) (zt_t2 12 rfl rfl)) hE.2.1 hK hP hD hS hA (by decide +kernel) (by decide +kernel) (by decide +kernel) (Nat.le_of_ble_eq_true rfl) (Nat.le_of_ble_eq_true rfl) dX2_init_44 (fun q_5 cA_5 H hK hP hD hS => ?_)
  have hP := hP.swap (a := [(h0, .inr (2, [.ref q_1, .ref q_2, .ref q_3, .ref q_4, .null, .null, .null, .null, .null, .int 0, .int 0, .int 0, .int 0, .int 0]))])
  have hD := hD.swap (a := [(h0, .inr (2, [.ref q_1, .ref q_2, .ref q_3, .ref q_4, .null, .null, .null, .null, .null, .int 0, .int 0, .int 0, .int 0, .int 0]))])
  have hr_q_5 : rfs K 7 (fun _ => none) 0 := rfs.nil
  have hP : va_P D vwCl ([(h0, .inr (2, [.ref q_1, .ref q_2, .ref q_3, .ref q_4, .null, .null, .null, .null, .null, .int 0, .int 0, .int 0, .int 0, .int 0])), (q_5, .inl (cA_5, 4, .inr (.inr (.inr (.inr (fun _ => none))))))] ++ zW K V) H := hP
  have hD : va_D A ([(h0, .inr (2, [.ref q_1, .ref q_2, .ref q_3, .ref q_4, .null, .null, .null, .null, .null, .int 0, .int 0, .int 0, .int 0, .int 0])), (q_5, .inl (cA_5, 4, .inr (.inr (.inr (.inr (fun _ => none))))))] ++ zW K V) := hD
  have hK : va_K D vwCl [(cA_5, .object RX8)] s := hK
  refine W.widen (k := 7) (n := 41903) (by omega) (by omega) ?_
  refine va_putF (D := D) (ci := 2) (v := .ref q_5) (ty := .array (.object "CardTables$Row")) (C := RX2) (T := TX2) (N := 14) hx hb hts in_2 tyX2 tyX2_ok nmX2 hown hK hP hD hS 0 rfl rfl 4 (by decide) (hts (.fieldLink RX2 32 "CardTables$Ends" "hands" "[LCardTables$Row;") (zt_t2 18 rfl rfl)) (fun _ h9 => h9) rfl hin rfl (by decide +kernel) rfl rfl (Nat.le_of_ble_eq_true rfl) dX2_init_47 (fun H locs hP hD hS => ?_)
  have hP : va_P D vwCl ([(h0, .inr (2, [.ref q_1, .ref q_2, .ref q_3, .ref q_4, .ref q_5, .null, .null, .null, .null, .int 0, .int 0, .int 0, .int 0, .int 0])), (q_5, .inl (cA_5, 4, .inr (.inr (.inr (.inr (fun _ => none))))))] ++ zW K V) H := hP
  have hD : va_D A ([(h0, .inr (2, [.ref q_1, .ref q_2, .ref q_3, .ref q_4, .ref q_5, .null, .null, .null, .null, .int 0, .int 0, .int 0, .int 0, .int 0])), (q_5, .inl (cA_5, 4, .inr (.inr (.inr (.inr (fun _ => none))))))] ++ zW K V) := hD
  refine lv_aload_n hx hb dX2_init_50 rfl (lv_at hl 0 rfl) ?_
  refine lv_iconst (v := 5) hx hb dX2_init_51 (by decide) ?_
  refine va_newq (C := RX8) (N' := 5) hx hb hown (hts (.classLink RX2 30 RX8) (zt_t2 12 rfl rfl)) hE.2.1 hK hP hD hS hA (by decide +kernel) (by decide +kernel) (by decide +kernel) (Nat.le_of_ble_eq_true rfl) (Nat.le_of_ble_eq_true rfl) dX2_init_52 (fun q_6 cA_6 H hK hP hD hS => ?_)
  have hP := hP.swap (a := [(h0, .inr (2, [.ref q_1, .ref q_2, .ref q_3, .ref q_4, .ref q_5, .null, .null, .null, .null, .int 0, .int 0, .int 0, .int 0, .int 0])), (q_5, .inl (cA_5, 4, .inr (.inr (.inr (.inr (fun _ => none))))))])
  have hD := hD.swap (a := [(h0, .inr (2, [.ref q_1, .ref q_2, .ref q_3, .ref q_4, .ref q_5, .null, .null, .null, .null, .int 0, .int 0, .int 0, .int 0, .int 0])), (q_5, .inl (cA_5, 4, .inr (.inr (.inr (.inr (fun _ => none))))))])
  have hr_q_6 : rfs K 7 (fun _ => none) 0 := rfs.nil
  have hP : va_P D vwCl ([(h0, .inr (2, [.ref q_1, .ref q_2, .ref q_3, .ref q_4, .ref q_5, .null, .null, .null, .null, .int 0, .int 0, .int 0, .int 0, .int 0])), (q_5, .inl (cA_5, 4, .inr (.inr (.inr (.inr (fun _ => none)))))), (q_6, .inl (cA_6, 5, .inr (.inr (.inr (.inr (fun _ => none))))))] ++ zW K V) H := hP
  have hD : va_D A ([(h0, .inr (2, [.ref q_1, .ref q_2, .ref q_3, .ref q_4, .ref q_5, .null, .null, .null, .null, .int 0, .int 0, .int 0, .int 0, .int 0])), (q_5, .inl (cA_5, 4, .inr (.inr (.inr (.inr (fun _ => none)))))), (q_6, .inl (cA_6, 5, .inr (.inr (.inr (.inr (fun _ => none))))))] ++ zW K V) := hD
  have hK : va_K D vwCl [(cA_5, .object RX8), (cA_6, .object RX8)] s := hK
  refine W.widen (k := 8) (n := 41908) (by omega) (by omega) ?_
  refine va_putF (D := D) (ci := 2) (v := .ref q_6) (ty := .array (.object "CardTables$Row")) (C := RX2) (T := TX2) (N := 14) hx hb hts in_2 tyX2 tyX2_ok nmX2 hown hK hP hD hS 0 rfl rfl 5 (by decide) (hts (.fieldLink RX2 36 "CardTables$Ends" "tricks" "[LCardTables$Row;") (zt_t2 19 rfl rfl)) (fun _ h9 => h9) rfl hin rfl (by decide +kernel) rfl rfl (Nat.le_of_ble_eq_true rfl) dX2_init_55 (fun H locs hP hD hS => ?_)
  have hP : va_P D vwCl ([(h0, .inr (2, [.ref q_1, .ref q_2, .ref q_3, .ref q_4, .ref q_5, .ref q_6, .null, .null, .null, .int 0, .int 0, .int 0, .int 0, .int 0])), (q_5, .inl (cA_5, 4, .inr (.inr (.inr (.inr (fun _ => none)))))), (q_6, .inl (cA_6, 5, .inr (.inr (.inr (.inr (fun _ => none))))))] ++ zW K V) H := hP
  have hD : va_D A ([(h0, .inr (2, [.ref q_1, .ref q_2, .ref q_3, .ref q_4, .ref q_5, .ref q_6, .null, .null, .null, .int 0, .int 0, .int 0, .int 0, .int 0])), (q_5, .inl (cA_5, 4, .inr (.inr (.inr (.inr (fun _ => none)))))), (q_6, .inl (cA_6, 5, .inr (.inr (.inr (.inr (fun _ => none))))))] ++ zW K V) := hD
  refine lv_aload_n hx hb dX2_init_58 rfl (lv_at hl 0 rfl) ?_
  refine lv_iconst (v := 5) hx hb dX2_init_59 (by decide) ?_
  refine va_newq (C := RX8) (N' := 5) hx hb hown (hts (.classLink RX2 30 RX8) (zt_t2 12 rfl rfl)) hE.2.1 hK hP hD hS hA (by decide +kernel) (by decide +kernel) (by decide +kernel) (Nat.le_of_ble_eq_true rfl) (Nat.le_of_ble_eq_true rfl) dX2_init_60 (fun q_7 cA_7 H hK hP hD hS => ?_)
  have hP := hP.swap (a := [(h0, .inr (2, [.ref q_1, .ref q_2, .ref q_3, .ref q_4, .ref q_5, .ref q_6, .null, .null, .null, .int 0, .int 0, .int 0, .int 0, .int 0])), (q_5, .inl (cA_5, 4, .inr (.inr (.inr (.inr (fun _ => none)))))), (q_6, .inl (cA_6, 5, .inr (.inr (.inr (.inr (fun _ => none))))))])
  have hD := hD.swap (a := [(h0, .inr (2, [.ref q_1, .ref q_2, .ref q_3, .ref q_4, .ref q_5, .ref q_6, .null, .null, .null, .int 0, .int 0, .int 0, .int 0, .int 0])), (q_5, .inl (cA_5, 4, .inr (.inr (.inr (.inr (fun _ => none)))))), (q_6, .inl (cA_6, 5, .inr (.inr (.inr (.inr (fun _ => none))))))])
  have hr_q_7 : rfs K 7 (fun _ => none) 0 := rfs.nil
  have hP : va_P D vwCl ([(h0, .inr (2, [.ref q_1, .ref q_2, .ref q_3, .ref q_4, .ref q_5, .ref q_6, .null, .null, .null, .int 0, .int 0, .int 0, .int 0, .int 0])), (q_5, .inl (cA_5, 4, .inr (.inr (.inr (.inr (fun _ => none)))))), (q_6, .inl (cA_6, 5, .inr (.inr (.inr (.inr (fun _ => none)))))), (q_7, .inl (cA_7, 5, .inr (.inr (.inr (.inr (fun _ => none))))))] ++ zW K V) H := hP
  have hD : va_D A ([(h0, .inr (2, [.ref q_1, .ref q_2, .ref q_3, .ref q_4, .ref q_5, .ref q_6, .null, .null, .null, .int 0, .int 0, .int 0, .int 0, .int 0])), (q_5, .inl (cA_5, 4, .inr (.inr (.inr (.inr (fun _ => none)))))), (q_6, .inl (cA_6, 5, .inr (.inr (.inr (.inr (fun _ => none)))))), (q_7, .inl (cA_7, 5, .inr (.inr (.inr (.inr (fun _ => none))))))] ++ zW K V) := hD
  have hK : va_K D vwCl [(cA_5, .object RX8), (cA_6, .object RX8), (cA_7, .object RX8)] s := hK
  refine W.widen (k := 9) (n := 41913) (by omega) (by omega) ?_
  refine va_putF (D := D) (ci := 2) (v := .ref q_7) (ty := .array (.object "CardTables$Row")) (C := RX2) (T := TX2) (N := 14) hx hb hts in_2 tyX2 tyX2_ok nmX2 hown hK hP hD hS 0 rfl rfl 6 (by decide) (hts (.fieldLink RX2 39 "CardTables$Ends" "layers" "[LCardTables$Row;") (zt_t2 20 rfl rfl)) (fun _ h9 => h9) rfl hin rfl (by decide +kernel) rfl rfl (Nat.le_of_ble_eq_true rfl) dX2_init_63 (fun H locs hP hD hS => ?_)
  have hP : va_P D vwCl ([(h0, .inr (2, [.ref q_1, .ref q_2, .ref q_3, .ref q_4, .ref q_5, .ref q_6, .ref q_7, .null, .null, .int 0, .int 0, .int 0, .int 0, .int 0])), (q_5, .inl (cA_5, 4, .inr (.inr (.inr (.inr (fun _ => none)))))), (q_6, .inl (cA_6, 5, .inr (.inr (.inr (.inr (fun _ => none)))))), (q_7, .inl (cA_7, 5, .inr (.inr (.inr (.inr (fun _ => none))))))] ++ zW K V) H := hP
  have hD : va_D A ([(h0, .inr (2, [.ref q_1, .ref q_2, .ref q_3, .ref q_4, .ref q_5, .ref q_6, .ref q_7, .null, .null, .int 0, .int 0, .int 0, .int 0, .int 0])), (q_5, .inl (cA_5, 4, .inr (.inr (.inr (.inr (fun _ => none)))))), (q_6, .inl (cA_6, 5, .inr (.inr (.inr (.inr (fun _ => none)))))), (q_7, .inl (cA_7, 5, .inr (.inr (.inr (.inr (fun _ => none))))))] ++ zW K V) := hD
  refine lv_iconst (v := 0) hx hb dX2_init_66 (by decide) ?_
  refine lv_istore_n (lv' := [(1, .int 0), (0, .ref h0)]) hx hb dX2_init_67 rfl hl (by decide) rfl (fun ls hl => ?_)
  refine lv_iload_n hx hb dX2_init_68 rfl (lv_at hl 0 rfl) ?_
  refine lv_iconst (v := 4) hx hb dX2_init_69 (by decide) ?_
  refine lv_icmp_ge (tgt := 93) hx hb dX2_init_70 (by decide) (fun c_8 => ?_) (fun c_8 => ?_)
  · exact absurd c_8 (by decide +kernel)
  · skip
    refine lv_aload_n hx hb dX2_init_73 rfl (lv_at hl 1 rfl) ?_
    refine va_get (D := D) (ci := 2) (v := .ref q_5) (C := RX2) (T := TX2) (N := 14) hx hb hts in_2 hown hK hP 0 rfl rfl 4 (by decide) (hts (.fieldLink RX2 32 "CardTables$Ends" "hands" "[LCardTables$Row;") (zt_t2 18 rfl rfl)) (fun _ h9 => h9) rfl dX2_init_74 ?_
    refine lv_iload_n hx hb dX2_init_77 rfl (lv_at hl 0 rfl) ?_
    refine va_new (ci := 7) (fs := [.null, .int 0]) (C := RX8) (T := TX8) (N := 2) hx hb hts in_7 tyX8 tyX8_ok hown (hts (.classLink RX2 30 RX8) (zt_t2 12 rfl rfl)) (hts (.instantiable RX8 2) (zt_t1 35 rfl rfl)) (hts (.initialized RX8) (zt_t1 3 rfl rfl)) hK hP hD hS hA rfl (fun j hj => by rcases (show j = 0 ∨ j = 1 by omega) with rfl | rfl <;> rfl) (Nat.le_of_ble_eq_true rfl) (Nat.le_of_ble_eq_true rfl) dX2_init_78 (fun q_9 H hP hD hS => ?_)
    have hP : va_P D vwCl (([(h0, .inr (2, [.ref q_1, .ref q_2, .ref q_3, .ref q_4, .ref q_5, .ref q_6, .ref q_7, .null, .null, .int 0, .int 0, .int 0, .int 0, .int 0])), (q_5, .inl (cA_5, 4, .inr (.inr (.inr (.inr (fun _ => none)))))), (q_6, .inl (cA_6, 5, .inr (.inr (.inr (.inr (fun _ => none)))))), (q_7, .inl (cA_7, 5, .inr (.inr (.inr (.inr (fun _ => none))))))] ++ zW K V) ++ [(q_9, .inr (7, [.null, .int 0]))]) H := hP
    have hD : va_D A (([(h0, .inr (2, [.ref q_1, .ref q_2, .ref q_3, .ref q_4, .ref q_5, .ref q_6, .ref q_7, .null, .null, .int 0, .int 0, .int 0, .int 0, .int 0])), (q_5, .inl (cA_5, 4, .inr (.inr (.inr (.inr (fun _ => none)))))), (q_6, .inl (cA_6, 5, .inr (.inr (.inr (.inr (fun _ => none)))))), (q_7, .inl (cA_7, 5, .inr (.inr (.inr (.inr (fun _ => none))))))] ++ zW K V) ++ [(q_9, .inr (7, [.null, .int 0]))]) := hD
    refine W.widen (k := 10) (n := 41915) (by omega) (by omega) ?_
    refine lv_dup hx hb dX2_init_81 rfl ?_
    refine lv_iconst (v := 4) hx hb dX2_init_82 (by decide) ?_
    refine ccall (As := [.int 4]) (rest := [.ref q_9, .int 0, .ref q_5]) (k := 7) (X := [(h0, .inr (2, [.ref q_1, .ref q_2, .ref q_3, .ref q_4, .ref q_5, .ref q_6, .ref q_7, .null, .null, .int 0, .int 0, .int 0, .int 0, .int 0])), (q_5, .inl (cA_5, 4, .inr (.inr (.inr (.inr (fun _ => none)))))), (q_6, .inl (cA_6, 5, .inr (.inr (.inr (.inr (fun _ => none)))))), (q_7, .inl (cA_7, 5, .inr (.inr (.inr (.inr (fun _ => none))))))]) C (c_Row_init l D q_9 H.size 4 4 (by decide +kernel) (by decide +kernel) (by decide +kernel) (by decide +kernel)) (by decide) mc_X8_init (zt_t2 13 rfl rfl) ⟨Nat.le_of_ble_eq_true rfl, Nat.le_of_ble_eq_true rfl⟩ ⟨Nat.le_of_ble_eq_true rfl, Nat.le_of_ble_eq_true rfl⟩ hl.1 (Nat.le_of_ble_eq_true rfl) dX2_init_83 hC hP hD hS hA hAr hK hE (fun K V H locs hC hP hD hS hAr hle hq => ?_)
    have hz := hz.add hle hq
    have hr_q_5 := hr_q_5.le hle
    have hr_q_6 := hr_q_6.le hle
    have hr_q_7 := hr_q_7.le hle
    clear hle hq
    refine W.widen (k := 11) (n := 41919) (by omega) (by omega) ?_
    have hv := hz.get 0 rfl
    obtain ⟨i_10, hi⟩ := cat (X := [(h0, .inr (2, [.ref q_1, .ref q_2, .ref q_3, .ref q_4, .ref q_5, .ref q_6, .ref q_7, .null, .null, .int 0, .int 0, .int 0, .int 0, .int 0])), (q_5, .inl (cA_5, 4, .inr (.inr (.inr (.inr (fun _ => none)))))), (q_6, .inl (cA_6, 5, .inr (.inr (.inr (.inr (fun _ => none)))))), (q_7, .inl (cA_7, 5, .inr (.inr (.inr (.inr (fun _ => none))))))]) (V := V) hv
    rw [zF_7 hv.2.1] at hi
    refine va_astq hx hb hK hP hD hS 1 0 i_10 7 rfl rfl hi rfl (by unfold vp_in; decide +kernel) dX2_init_86 (fun H locs hP hD hS => ?_)
    have hP : va_P D vwCl ([(h0, .inr (2, [.ref q_1, .ref q_2, .ref q_3, .ref q_4, .ref q_5, .ref q_6, .ref q_7, .null, .null, .int 0, .int 0, .int 0, .int 0, .int 0])), (q_5, .inl (cA_5, 4, .inr (.inr (.inr (.inr (va_up (fun _ => none) 0 (some q_9))))))), (q_6, .inl (cA_6, 5, .inr (.inr (.inr (.inr (fun _ => none)))))), (q_7, .inl (cA_7, 5, .inr (.inr (.inr (.inr (fun _ => none))))))] ++ zW K V) H := hP
    have hD : va_D A ([(h0, .inr (2, [.ref q_1, .ref q_2, .ref q_3, .ref q_4, .ref q_5, .ref q_6, .ref q_7, .null, .null, .int 0, .int 0, .int 0, .int 0, .int 0])), (q_5, .inl (cA_5, 4, .inr (.inr (.inr (.inr (va_up (fun _ => none) 0 (some q_9))))))), (q_6, .inl (cA_6, 5, .inr (.inr (.inr (.inr (fun _ => none)))))), (q_7, .inl (cA_7, 5, .inr (.inr (.inr (.inr (fun _ => none))))))] ++ zW K V) := hD
    have hr_q_5 := hr_q_5.push hv
    generalize va_up (fun _ => none) 0 (some q_9) = f_10 at hP hD hr_q_5
    clear hv hi
    have hz : zats K [(q_4, 20, 60), (q_3, 20, 20736), (q_2, 20, 20736), (q_1, 5, 0)] := fun q h => hz q (List.mem_cons_of_mem _ h)
    refine lv_iinc (v := 1) (lv' := [(1, .int 1), (0, .ref h0)]) hx hb dX2_init_87 hl (k := 0) rfl (by decide) (by decide) rfl (fun ls hl => ?_)
    refine lv_goto (tgt := 68) hx hb dX2_init_90 (by decide) ?_
    refine lv_iload_n hx hb dX2_init_68 rfl (lv_at hl 0 rfl) ?_
    refine lv_iconst (v := 4) hx hb dX2_init_69 (by decide) ?_
    refine lv_icmp_ge (tgt := 93) hx hb dX2_init_70 (by decide) (fun c_12 => ?_) (fun c_12 => ?_)
    · exact absurd c_12 (by decide +kernel)
    · skip
      refine lv_aload_n hx hb dX2_init_73 rfl (lv_at hl 1 rfl) ?_
      refine va_get (D := D) (ci := 2) (v := .ref q_5) (C := RX2) (T := TX2) (N := 14) hx hb hts in_2 hown hK hP 0 rfl rfl 4 (by decide) (hts (.fieldLink RX2 32 "CardTables$Ends" "hands" "[LCardTables$Row;") (zt_t2 18 rfl rfl)) (fun _ h9 => h9) rfl dX2_init_74 ?_
      refine lv_iload_n hx hb dX2_init_77 rfl (lv_at hl 0 rfl) ?_
      refine va_new (ci := 7) (fs := [.null, .int 0]) (C := RX8) (T := TX8) (N := 2) hx hb hts in_7 tyX8 tyX8_ok hown (hts (.classLink RX2 30 RX8) (zt_t2 12 rfl rfl)) (hts (.instantiable RX8 2) (zt_t1 35 rfl rfl)) (hts (.initialized RX8) (zt_t1 3 rfl rfl)) hK hP hD hS hA rfl (fun j hj => by rcases (show j = 0 ∨ j = 1 by omega) with rfl | rfl <;> rfl) (Nat.le_of_ble_eq_true rfl) (Nat.le_of_ble_eq_true rfl) dX2_init_78 (fun q_13 H hP hD hS => ?_)
      have hP : va_P D vwCl (([(h0, .inr (2, [.ref q_1, .ref q_2, .ref q_3, .ref q_4, .ref q_5, .ref q_6, .ref q_7, .null, .null, .int 0, .int 0, .int 0, .int 0, .int 0])), (q_5, .inl (cA_5, 4, .inr (.inr (.inr (.inr f_10))))), (q_6, .inl (cA_6, 5, .inr (.inr (.inr (.inr (fun _ => none)))))), (q_7, .inl (cA_7, 5, .inr (.inr (.inr (.inr (fun _ => none))))))] ++ zW K V) ++ [(q_13, .inr (7, [.null, .int 0]))]) H := hP
      have hD : va_D A (([(h0, .inr (2, [.ref q_1, .ref q_2, .ref q_3, .ref q_4, .ref q_5, .ref q_6, .ref q_7, .null, .null, .int 0, .int 0, .int 0, .int 0, .int 0])), (q_5, .inl (cA_5, 4, .inr (.inr (.inr (.inr f_10))))), (q_6, .inl (cA_6, 5, .inr (.inr (.inr (.inr (fun _ => none)))))), (q_7, .inl (cA_7, 5, .inr (.inr (.inr (.inr (fun _ => none))))))] ++ zW K V) ++ [(q_13, .inr (7, [.null, .int 0]))]) := hD
      refine W.widen (k := 12) (n := 41921) (by omega) (by omega) ?_
      refine lv_dup hx hb dX2_init_81 rfl ?_
      refine lv_iconst (v := 4) hx hb dX2_init_82 (by decide) ?_
      refine ccall (As := [.int 4]) (rest := [.ref q_13, .int 1, .ref q_5]) (k := 7) (X := [(h0, .inr (2, [.ref q_1, .ref q_2, .ref q_3, .ref q_4, .ref q_5, .ref q_6, .ref q_7, .null, .null, .int 0, .int 0, .int 0, .int 0, .int 0])), (q_5, .inl (cA_5, 4, .inr (.inr (.inr (.inr f_10))))), (q_6, .inl (cA_6, 5, .inr (.inr (.inr (.inr (fun _ => none)))))), (q_7, .inl (cA_7, 5, .inr (.inr (.inr (.inr (fun _ => none))))))]) C (c_Row_init l D q_13 H.size 4 4 (by decide +kernel) (by decide +kernel) (by decide +kernel) (by decide +kernel)) (by decide) mc_X8_init (zt_t2 13 rfl rfl) ⟨Nat.le_of_ble_eq_true rfl, Nat.le_of_ble_eq_true rfl⟩ ⟨Nat.le_of_ble_eq_true rfl, Nat.le_of_ble_eq_true rfl⟩ hl.1 (Nat.le_of_ble_eq_true rfl) dX2_init_83 hC hP hD hS hA hAr hK hE (fun K V H locs hC hP hD hS hAr hle hq => ?_)
      have hz := hz.add hle hq
      have hr_q_5 := hr_q_5.le hle
      have hr_q_6 := hr_q_6.le hle
      have hr_q_7 := hr_q_7.le hle
      clear hle hq
      refine W.widen (k := 13) (n := 41925) (by omega) (by omega) ?_
      have hv := hz.get 0 rfl
      obtain ⟨i_14, hi⟩ := cat (X := [(h0, .inr (2, [.ref q_1, .ref q_2, .ref q_3, .ref q_4, .ref q_5, .ref q_6, .ref q_7, .null, .null, .int 0, .int 0, .int 0, .int 0, .int 0])), (q_5, .inl (cA_5, 4, .inr (.inr (.inr (.inr f_10))))), (q_6, .inl (cA_6, 5, .inr (.inr (.inr (.inr (fun _ => none)))))), (q_7, .inl (cA_7, 5, .inr (.inr (.inr (.inr (fun _ => none))))))]) (V := V) hv
      rw [zF_7 hv.2.1] at hi
      refine va_astq hx hb hK hP hD hS 1 0 i_14 7 rfl rfl hi rfl (by unfold vp_in; decide +kernel) dX2_init_86 (fun H locs hP hD hS => ?_)
      have hP : va_P D vwCl ([(h0, .inr (2, [.ref q_1, .ref q_2, .ref q_3, .ref q_4, .ref q_5, .ref q_6, .ref q_7, .null, .null, .int 0, .int 0, .int 0, .int 0, .int 0])), (q_5, .inl (cA_5, 4, .inr (.inr (.inr (.inr (va_up f_10 1 (some q_13))))))), (q_6, .inl (cA_6, 5, .inr (.inr (.inr (.inr (fun _ => none)))))), (q_7, .inl (cA_7, 5, .inr (.inr (.inr (.inr (fun _ => none))))))] ++ zW K V) H := hP
      have hD : va_D A ([(h0, .inr (2, [.ref q_1, .ref q_2, .ref q_3, .ref q_4, .ref q_5, .ref q_6, .ref q_7, .null, .null, .int 0, .int 0, .int 0, .int 0, .int 0])), (q_5, .inl (cA_5, 4, .inr (.inr (.inr (.inr (va_up f_10 1 (some q_13))))))), (q_6, .inl (cA_6, 5, .inr (.inr (.inr (.inr (fun _ => none)))))), (q_7, .inl (cA_7, 5, .inr (.inr (.inr (.inr (fun _ => none))))))] ++ zW K V) := hD
      have hr_q_5 := hr_q_5.push hv
      generalize va_up f_10 1 (some q_13) = f_14 at hP hD hr_q_5
      clear hv hi
      have hz : zats K [(q_4, 20, 60), (q_3, 20, 20736), (q_2, 20, 20736), (q_1, 5, 0)] := fun q h => hz q (List.mem_cons_of_mem _ h)
      refine lv_iinc (v := 2) (lv' := [(1, .int 2), (0, .ref h0)]) hx hb dX2_init_87 hl (k := 0) rfl (by decide) (by decide) rfl (fun ls hl => ?_)
      refine lv_goto (tgt := 68) hx hb dX2_init_90 (by decide) ?_
      refine lv_iload_n hx hb dX2_init_68 rfl (lv_at hl 0 rfl) ?_
      refine lv_iconst (v := 4) hx hb dX2_init_69 (by decide) ?_
      refine lv_icmp_ge (tgt := 93) hx hb dX2_init_70 (by decide) (fun c_16 => ?_) (fun c_16 => ?_)
      · exact absurd c_16 (by decide +kernel)
      · skip
        refine lv_aload_n hx hb dX2_init_73 rfl (lv_at hl 1 rfl) ?_
        refine va_get (D := D) (ci := 2) (v := .ref q_5) (C := RX2) (T := TX2) (N := 14) hx hb hts in_2 hown hK hP 0 rfl rfl 4 (by decide) (hts (.fieldLink RX2 32 "CardTables$Ends" "hands" "[LCardTables$Row;") (zt_t2 18 rfl rfl)) (fun _ h9 => h9) rfl dX2_init_74 ?_
        refine lv_iload_n hx hb dX2_init_77 rfl (lv_at hl 0 rfl) ?_
        refine va_new (ci := 7) (fs := [.null, .int 0]) (C := RX8) (T := TX8) (N := 2) hx hb hts in_7 tyX8 tyX8_ok hown (hts (.classLink RX2 30 RX8) (zt_t2 12 rfl rfl)) (hts (.instantiable RX8 2) (zt_t1 35 rfl rfl)) (hts (.initialized RX8) (zt_t1 3 rfl rfl)) hK hP hD hS hA rfl (fun j hj => by rcases (show j = 0 ∨ j = 1 by omega) with rfl | rfl <;> rfl) (Nat.le_of_ble_eq_true rfl) (Nat.le_of_ble_eq_true rfl) dX2_init_78 (fun q_17 H hP hD hS => ?_)
        have hP : va_P D vwCl (([(h0, .inr (2, [.ref q_1, .ref q_2, .ref q_3, .ref q_4, .ref q_5, .ref q_6, .ref q_7, .null, .null, .int 0, .int 0, .int 0, .int 0, .int 0])), (q_5, .inl (cA_5, 4, .inr (.inr (.inr (.inr f_14))))), (q_6, .inl (cA_6, 5, .inr (.inr (.inr (.inr (fun _ => none)))))), (q_7, .inl (cA_7, 5, .inr (.inr (.inr (.inr (fun _ => none))))))] ++ zW K V) ++ [(q_17, .inr (7, [.null, .int 0]))]) H := hP
        have hD : va_D A (([(h0, .inr (2, [.ref q_1, .ref q_2, .ref q_3, .ref q_4, .ref q_5, .ref q_6, .ref q_7, .null, .null, .int 0, .int 0, .int 0, .int 0, .int 0])), (q_5, .inl (cA_5, 4, .inr (.inr (.inr (.inr f_14))))), (q_6, .inl (cA_6, 5, .inr (.inr (.inr (.inr (fun _ => none)))))), (q_7, .inl (cA_7, 5, .inr (.inr (.inr (.inr (fun _ => none))))))] ++ zW K V) ++ [(q_17, .inr (7, [.null, .int 0]))]) := hD
        refine W.widen (k := 14) (n := 41927) (by omega) (by omega) ?_
        refine lv_dup hx hb dX2_init_81 rfl ?_
        refine lv_iconst (v := 4) hx hb dX2_init_82 (by decide) ?_
        refine ccall (As := [.int 4]) (rest := [.ref q_17, .int 2, .ref q_5]) (k := 7) (X := [(h0, .inr (2, [.ref q_1, .ref q_2, .ref q_3, .ref q_4, .ref q_5, .ref q_6, .ref q_7, .null, .null, .int 0, .int 0, .int 0, .int 0, .int 0])), (q_5, .inl (cA_5, 4, .inr (.inr (.inr (.inr f_14))))), (q_6, .inl (cA_6, 5, .inr (.inr (.inr (.inr (fun _ => none)))))), (q_7, .inl (cA_7, 5, .inr (.inr (.inr (.inr (fun _ => none))))))]) C (c_Row_init l D q_17 H.size 4 4 (by decide +kernel) (by decide +kernel) (by decide +kernel) (by decide +kernel)) (by decide) mc_X8_init (zt_t2 13 rfl rfl) ⟨Nat.le_of_ble_eq_true rfl, Nat.le_of_ble_eq_true rfl⟩ ⟨Nat.le_of_ble_eq_true rfl, Nat.le_of_ble_eq_true rfl⟩ hl.1 (Nat.le_of_ble_eq_true rfl) dX2_init_83 hC hP hD hS hA hAr hK hE (fun K V H locs hC hP hD hS hAr hle hq => ?_)
        have hz := hz.add hle hq
        have hr_q_5 := hr_q_5.le hle
        have hr_q_6 := hr_q_6.le hle
        have hr_q_7 := hr_q_7.le hle
        clear hle hq
        refine W.widen (k := 15) (n := 41931) (by omega) (by omega) ?_
        have hv := hz.get 0 rfl
        obtain ⟨i_18, hi⟩ := cat (X := [(h0, .inr (2, [.ref q_1, .ref q_2, .ref q_3, .ref q_4, .ref q_5, .ref q_6, .ref q_7, .null, .null, .int 0, .int 0, .int 0, .int 0, .int 0])), (q_5, .inl (cA_5, 4, .inr (.inr (.inr (.inr f_14))))), (q_6, .inl (cA_6, 5, .inr (.inr (.inr (.inr (fun _ => none)))))), (q_7, .inl (cA_7, 5, .inr (.inr (.inr (.inr (fun _ => none))))))]) (V := V) hv
        rw [zF_7 hv.2.1] at hi
        refine va_astq hx hb hK hP hD hS 1 0 i_18 7 rfl rfl hi rfl (by unfold vp_in; decide +kernel) dX2_init_86 (fun H locs hP hD hS => ?_)
        have hP : va_P D vwCl ([(h0, .inr (2, [.ref q_1, .ref q_2, .ref q_3, .ref q_4, .ref q_5, .ref q_6, .ref q_7, .null, .null, .int 0, .int 0, .int 0, .int 0, .int 0])), (q_5, .inl (cA_5, 4, .inr (.inr (.inr (.inr (va_up f_14 2 (some q_17))))))), (q_6, .inl (cA_6, 5, .inr (.inr (.inr (.inr (fun _ => none)))))), (q_7, .inl (cA_7, 5, .inr (.inr (.inr (.inr (fun _ => none))))))] ++ zW K V) H := hP
        have hD : va_D A ([(h0, .inr (2, [.ref q_1, .ref q_2, .ref q_3, .ref q_4, .ref q_5, .ref q_6, .ref q_7, .null, .null, .int 0, .int 0, .int 0, .int 0, .int 0])), (q_5, .inl (cA_5, 4, .inr (.inr (.inr (.inr (va_up f_14 2 (some q_17))))))), (q_6, .inl (cA_6, 5, .inr (.inr (.inr (.inr (fun _ => none)))))), (q_7, .inl (cA_7, 5, .inr (.inr (.inr (.inr (fun _ => none))))))] ++ zW K V) := hD
        have hr_q_5 := hr_q_5.push hv
        generalize va_up f_14 2 (some q_17) = f_18 at hP hD hr_q_5
        clear hv hi
        have hz : zats K [(q_4, 20, 60), (q_3, 20, 20736), (q_2, 20, 20736), (q_1, 5, 0)] := fun q h => hz q (List.mem_cons_of_mem _ h)
        refine lv_iinc (v := 3) (lv' := [(1, .int 3), (0, .ref h0)]) hx hb dX2_init_87 hl (k := 0) rfl (by decide) (by decide) rfl (fun ls hl => ?_)
        refine lv_goto (tgt := 68) hx hb dX2_init_90 (by decide) ?_
        refine lv_iload_n hx hb dX2_init_68 rfl (lv_at hl 0 rfl) ?_
        refine lv_iconst (v := 4) hx hb dX2_init_69 (by decide) ?_
        refine lv_icmp_ge (tgt := 93) hx hb dX2_init_70 (by decide) (fun c_20 => ?_) (fun c_20 => ?_)
        · exact absurd c_20 (by decide +kernel)
        · skip
          refine lv_aload_n hx hb dX2_init_73 rfl (lv_at hl 1 rfl) ?_
          refine va_get (D := D) (ci := 2) (v := .ref q_5) (C := RX2) (T := TX2) (N := 14) hx hb hts in_2 hown hK hP 0 rfl rfl 4 (by decide) (hts (.fieldLink RX2 32 "CardTables$Ends" "hands" "[LCardTables$Row;") (zt_t2 18 rfl rfl)) (fun _ h9 => h9) rfl dX2_init_74 ?_
          refine lv_iload_n hx hb dX2_init_77 rfl (lv_at hl 0 rfl) ?_
          refine va_new (ci := 7) (fs := [.null, .int 0]) (C := RX8) (T := TX8) (N := 2) hx hb hts in_7 tyX8 tyX8_ok hown (hts (.classLink RX2 30 RX8) (zt_t2 12 rfl rfl)) (hts (.instantiable RX8 2) (zt_t1 35 rfl rfl)) (hts (.initialized RX8) (zt_t1 3 rfl rfl)) hK hP hD hS hA rfl (fun j hj => by rcases (show j = 0 ∨ j = 1 by omega) with rfl | rfl <;> rfl) (Nat.le_of_ble_eq_true rfl) (Nat.le_of_ble_eq_true rfl) dX2_init_78 (fun q_21 H hP hD hS => ?_)
          have hP : va_P D vwCl (([(h0, .inr (2, [.ref q_1, .ref q_2, .ref q_3, .ref q_4, .ref q_5, .ref q_6, .ref q_7, .null, .null, .int 0, .int 0, .int 0, .int 0, .int 0])), (q_5, .inl (cA_5, 4, .inr (.inr (.inr (.inr f_18))))), (q_6, .inl (cA_6, 5, .inr (.inr (.inr (.inr (fun _ => none)))))), (q_7, .inl (cA_7, 5, .inr (.inr (.inr (.inr (fun _ => none))))))] ++ zW K V) ++ [(q_21, .inr (7, [.null, .int 0]))]) H := hP
          have hD : va_D A (([(h0, .inr (2, [.ref q_1, .ref q_2, .ref q_3, .ref q_4, .ref q_5, .ref q_6, .ref q_7, .null, .null, .int 0, .int 0, .int 0, .int 0, .int 0])), (q_5, .inl (cA_5, 4, .inr (.inr (.inr (.inr f_18))))), (q_6, .inl (cA_6, 5, .inr (.inr (.inr (.inr (fun _ => none)))))), (q_7, .inl (cA_7, 5, .inr (.inr (.inr (.inr (fun _ => none))))))] ++ zW K V) ++ [(q_21, .inr (7, [.null, .int 0]))]) := hD
          refine W.widen (k := 16) (n := 41933) (by omega) (by omega) ?_
          refine lv_dup hx hb dX2_init_81 rfl ?_
          refine lv_iconst (v := 4) hx hb dX2_init_82 (by decide) ?_
          refine ccall (As := [.int 4]) (rest := [.ref q_21, .int 3, .ref q_5]) (k := 7) (X := [(h0, .inr (2, [.ref q_1, .ref q_2, .ref q_3, .ref q_4, .ref q_5, .ref q_6, .ref q_7, .null, .null, .int 0, .int 0, .int 0, .int 0, .int 0])), (q_5, .inl (cA_5, 4, .inr (.inr (.inr (.inr f_18))))), (q_6, .inl (cA_6, 5, .inr (.inr (.inr (.inr (fun _ => none)))))), (q_7, .inl (cA_7, 5, .inr (.inr (.inr (.inr (fun _ => none))))))]) C (c_Row_init l D q_21 H.size 4 4 (by decide +kernel) (by decide +kernel) (by decide +kernel) (by decide +kernel)) (by decide) mc_X8_init (zt_t2 13 rfl rfl) ⟨Nat.le_of_ble_eq_true rfl, Nat.le_of_ble_eq_true rfl⟩ ⟨Nat.le_of_ble_eq_true rfl, Nat.le_of_ble_eq_true rfl⟩ hl.1 (Nat.le_of_ble_eq_true rfl) dX2_init_83 hC hP hD hS hA hAr hK hE (fun K V H locs hC hP hD hS hAr hle hq => ?_)
          have hz := hz.add hle hq
          have hr_q_5 := hr_q_5.le hle
          have hr_q_6 := hr_q_6.le hle
          have hr_q_7 := hr_q_7.le hle
          clear hle hq
          refine W.widen (k := 17) (n := 41937) (by omega) (by omega) ?_
          have hv := hz.get 0 rfl
          obtain ⟨i_22, hi⟩ := cat (X := [(h0, .inr (2, [.ref q_1, .ref q_2, .ref q_3, .ref q_4, .ref q_5, .ref q_6, .ref q_7, .null, .null, .int 0, .int 0, .int 0, .int 0, .int 0])), (q_5, .inl (cA_5, 4, .inr (.inr (.inr (.inr f_18))))), (q_6, .inl (cA_6, 5, .inr (.inr (.inr (.inr (fun _ => none)))))), (q_7, .inl (cA_7, 5, .inr (.inr (.inr (.inr (fun _ => none))))))]) (V := V) hv
          rw [zF_7 hv.2.1] at hi
          refine va_astq hx hb hK hP hD hS 1 0 i_22 7 rfl rfl hi rfl (by unfold vp_in; decide +kernel) dX2_init_86 (fun H locs hP hD hS => ?_)
          have hP : va_P D vwCl ([(h0, .inr (2, [.ref q_1, .ref q_2, .ref q_3, .ref q_4, .ref q_5, .ref q_6, .ref q_7, .null, .null, .int 0, .int 0, .int 0, .int 0, .int 0])), (q_5, .inl (cA_5, 4, .inr (.inr (.inr (.inr (va_up f_18 3 (some q_21))))))), (q_6, .inl (cA_6, 5, .inr (.inr (.inr (.inr (fun _ => none)))))), (q_7, .inl (cA_7, 5, .inr (.inr (.inr (.inr (fun _ => none))))))] ++ zW K V) H := hP
          have hD : va_D A ([(h0, .inr (2, [.ref q_1, .ref q_2, .ref q_3, .ref q_4, .ref q_5, .ref q_6, .ref q_7, .null, .null, .int 0, .int 0, .int 0, .int 0, .int 0])), (q_5, .inl (cA_5, 4, .inr (.inr (.inr (.inr (va_up f_18 3 (some q_21))))))), (q_6, .inl (cA_6, 5, .inr (.inr (.inr (.inr (fun _ => none)))))), (q_7, .inl (cA_7, 5, .inr (.inr (.inr (.inr (fun _ => none))))))] ++ zW K V) := hD
          have hr_q_5 := hr_q_5.push hv
          generalize va_up f_18 3 (some q_21) = f_22 at hP hD hr_q_5
          clear hv hi
          have hz : zats K [(q_4, 20, 60), (q_3, 20, 20736), (q_2, 20, 20736), (q_1, 5, 0)] := fun q h => hz q (List.mem_cons_of_mem _ h)
          refine lv_iinc (v := 4) (lv' := [(1, .int 4), (0, .ref h0)]) hx hb dX2_init_87 hl (k := 0) rfl (by decide) (by decide) rfl (fun ls hl => ?_)
          refine lv_goto (tgt := 68) hx hb dX2_init_90 (by decide) ?_
          refine lv_iload_n hx hb dX2_init_68 rfl (lv_at hl 0 rfl) ?_
          refine lv_iconst (v := 4) hx hb dX2_init_69 (by decide) ?_
          refine lv_icmp_ge (tgt := 93) hx hb dX2_init_70 (by decide) (fun c_24 => ?_) (fun c_24 => ?_)
          · skip
            refine lv_iconst (v := 0) hx hb dX2_init_93 (by decide) ?_
            refine lv_istore_n (lv' := [(1, .int 0), (0, .ref h0)]) hx hb dX2_init_94 rfl hl (by decide) rfl (fun ls hl => ?_)
            refine lv_iload_n hx hb dX2_init_95 rfl (lv_at hl 0 rfl) ?_
            refine lv_iconst (v := 4) hx hb dX2_init_96 (by decide) ?_
            refine lv_icmp_gt (tgt := 134) hx hb dX2_init_97 (by decide) (fun c_25 => ?_) (fun c_25 => ?_)
            · exact absurd c_25 (by decide +kernel)
            · skip
              refine lv_aload_n hx hb dX2_init_100 rfl (lv_at hl 1 rfl) ?_
              refine va_get (D := D) (ci := 2) (v := .ref q_6) (C := RX2) (T := TX2) (N := 14) hx hb hts in_2 hown hK hP 0 rfl rfl 5 (by decide) (hts (.fieldLink RX2 36 "CardTables$Ends" "tricks" "[LCardTables$Row;") (zt_t2 19 rfl rfl)) (fun _ h9 => h9) rfl dX2_init_101 ?_
              refine lv_iload_n hx hb dX2_init_104 rfl (lv_at hl 0 rfl) ?_
              refine va_new (ci := 7) (fs := [.null, .int 0]) (C := RX8) (T := TX8) (N := 2) hx hb hts in_7 tyX8 tyX8_ok hown (hts (.classLink RX2 30 RX8) (zt_t2 12 rfl rfl)) (hts (.instantiable RX8 2) (zt_t1 35 rfl rfl)) (hts (.initialized RX8) (zt_t1 3 rfl rfl)) hK hP hD hS hA rfl (fun j hj => by rcases (show j = 0 ∨ j = 1 by omega) with rfl | rfl <;> rfl) (Nat.le_of_ble_eq_true rfl) (Nat.le_of_ble_eq_true rfl) dX2_init_105 (fun q_26 H hP hD hS => ?_)
              have hP : va_P D vwCl (([(h0, .inr (2, [.ref q_1, .ref q_2, .ref q_3, .ref q_4, .ref q_5, .ref q_6, .ref q_7, .null, .null, .int 0, .int 0, .int 0, .int 0, .int 0])), (q_5, .inl (cA_5, 4, .inr (.inr (.inr (.inr f_22))))), (q_6, .inl (cA_6, 5, .inr (.inr (.inr (.inr (fun _ => none)))))), (q_7, .inl (cA_7, 5, .inr (.inr (.inr (.inr (fun _ => none))))))] ++ zW K V) ++ [(q_26, .inr (7, [.null, .int 0]))]) H := hP
              have hD : va_D A (([(h0, .inr (2, [.ref q_1, .ref q_2, .ref q_3, .ref q_4, .ref q_5, .ref q_6, .ref q_7, .null, .null, .int 0, .int 0, .int 0, .int 0, .int 0])), (q_5, .inl (cA_5, 4, .inr (.inr (.inr (.inr f_22))))), (q_6, .inl (cA_6, 5, .inr (.inr (.inr (.inr (fun _ => none)))))), (q_7, .inl (cA_7, 5, .inr (.inr (.inr (.inr (fun _ => none))))))] ++ zW K V) ++ [(q_26, .inr (7, [.null, .int 0]))]) := hD
              refine W.widen (k := 18) (n := 41939) (by omega) (by omega) ?_
              refine lv_dup hx hb dX2_init_108 rfl ?_
              refine lv_iconst (v := 4) hx hb dX2_init_109 (by decide) ?_
              refine ccall (As := [.int 4]) (rest := [.ref q_26, .int 0, .ref q_6]) (k := 7) (X := [(h0, .inr (2, [.ref q_1, .ref q_2, .ref q_3, .ref q_4, .ref q_5, .ref q_6, .ref q_7, .null, .null, .int 0, .int 0, .int 0, .int 0, .int 0])), (q_5, .inl (cA_5, 4, .inr (.inr (.inr (.inr f_22))))), (q_6, .inl (cA_6, 5, .inr (.inr (.inr (.inr (fun _ => none)))))), (q_7, .inl (cA_7, 5, .inr (.inr (.inr (.inr (fun _ => none))))))]) C (c_Row_init l D q_26 H.size 4 4 (by decide +kernel) (by decide +kernel) (by decide +kernel) (by decide +kernel)) (by decide) mc_X8_init (zt_t2 13 rfl rfl) ⟨Nat.le_of_ble_eq_true rfl, Nat.le_of_ble_eq_true rfl⟩ ⟨Nat.le_of_ble_eq_true rfl, Nat.le_of_ble_eq_true rfl⟩ hl.1 (Nat.le_of_ble_eq_true rfl) dX2_init_110 hC hP hD hS hA hAr hK hE (fun K V H locs hC hP hD hS hAr hle hq => ?_)
              have hz := hz.add hle hq
              have hr_q_5 := hr_q_5.le hle
              have hr_q_6 := hr_q_6.le hle
              have hr_q_7 := hr_q_7.le hle
              clear hle hq
              refine W.widen (k := 19) (n := 41943) (by omega) (by omega) ?_
              have hv := hz.get 0 rfl
              obtain ⟨i_27, hi⟩ := cat (X := [(h0, .inr (2, [.ref q_1, .ref q_2, .ref q_3, .ref q_4, .ref q_5, .ref q_6, .ref q_7, .null, .null, .int 0, .int 0, .int 0, .int 0, .int 0])), (q_5, .inl (cA_5, 4, .inr (.inr (.inr (.inr f_22))))), (q_6, .inl (cA_6, 5, .inr (.inr (.inr (.inr (fun _ => none)))))), (q_7, .inl (cA_7, 5, .inr (.inr (.inr (.inr (fun _ => none))))))]) (V := V) hv
              rw [zF_7 hv.2.1] at hi
              refine va_astq hx hb hK hP hD hS 2 1 i_27 7 rfl rfl hi rfl (by unfold vp_in; decide +kernel) dX2_init_113 (fun H locs hP hD hS => ?_)
              have hP : va_P D vwCl ([(h0, .inr (2, [.ref q_1, .ref q_2, .ref q_3, .ref q_4, .ref q_5, .ref q_6, .ref q_7, .null, .null, .int 0, .int 0, .int 0, .int 0, .int 0])), (q_5, .inl (cA_5, 4, .inr (.inr (.inr (.inr f_22))))), (q_6, .inl (cA_6, 5, .inr (.inr (.inr (.inr (va_up (fun _ => none) 0 (some q_26))))))), (q_7, .inl (cA_7, 5, .inr (.inr (.inr (.inr (fun _ => none))))))] ++ zW K V) H := hP
              have hD : va_D A ([(h0, .inr (2, [.ref q_1, .ref q_2, .ref q_3, .ref q_4, .ref q_5, .ref q_6, .ref q_7, .null, .null, .int 0, .int 0, .int 0, .int 0, .int 0])), (q_5, .inl (cA_5, 4, .inr (.inr (.inr (.inr f_22))))), (q_6, .inl (cA_6, 5, .inr (.inr (.inr (.inr (va_up (fun _ => none) 0 (some q_26))))))), (q_7, .inl (cA_7, 5, .inr (.inr (.inr (.inr (fun _ => none))))))] ++ zW K V) := hD
              have hr_q_6 := hr_q_6.push hv
              generalize va_up (fun _ => none) 0 (some q_26) = f_27 at hP hD hr_q_6
              clear hv hi
              have hz : zats K [(q_4, 20, 60), (q_3, 20, 20736), (q_2, 20, 20736), (q_1, 5, 0)] := fun q h => hz q (List.mem_cons_of_mem _ h)
              refine lv_aload_n hx hb dX2_init_114 rfl (lv_at hl 1 rfl) ?_
              refine va_get (D := D) (ci := 2) (v := .ref q_7) (C := RX2) (T := TX2) (N := 14) hx hb hts in_2 hown hK hP 0 rfl rfl 6 (by decide) (hts (.fieldLink RX2 39 "CardTables$Ends" "layers" "[LCardTables$Row;") (zt_t2 20 rfl rfl)) (fun _ h9 => h9) rfl dX2_init_115 ?_
              refine lv_iload_n hx hb dX2_init_118 rfl (lv_at hl 0 rfl) ?_
              refine va_new (ci := 7) (fs := [.null, .int 0]) (C := RX8) (T := TX8) (N := 2) hx hb hts in_7 tyX8 tyX8_ok hown (hts (.classLink RX2 30 RX8) (zt_t2 12 rfl rfl)) (hts (.instantiable RX8 2) (zt_t1 35 rfl rfl)) (hts (.initialized RX8) (zt_t1 3 rfl rfl)) hK hP hD hS hA rfl (fun j hj => by rcases (show j = 0 ∨ j = 1 by omega) with rfl | rfl <;> rfl) (Nat.le_of_ble_eq_true rfl) (Nat.le_of_ble_eq_true rfl) dX2_init_119 (fun q_28 H hP hD hS => ?_)
              have hP : va_P D vwCl (([(h0, .inr (2, [.ref q_1, .ref q_2, .ref q_3, .ref q_4, .ref q_5, .ref q_6, .ref q_7, .null, .null, .int 0, .int 0, .int 0, .int 0, .int 0])), (q_5, .inl (cA_5, 4, .inr (.inr (.inr (.inr f_22))))), (q_6, .inl (cA_6, 5, .inr (.inr (.inr (.inr f_27))))), (q_7, .inl (cA_7, 5, .inr (.inr (.inr (.inr (fun _ => none))))))] ++ zW K V) ++ [(q_28, .inr (7, [.null, .int 0]))]) H := hP
              have hD : va_D A (([(h0, .inr (2, [.ref q_1, .ref q_2, .ref q_3, .ref q_4, .ref q_5, .ref q_6, .ref q_7, .null, .null, .int 0, .int 0, .int 0, .int 0, .int 0])), (q_5, .inl (cA_5, 4, .inr (.inr (.inr (.inr f_22))))), (q_6, .inl (cA_6, 5, .inr (.inr (.inr (.inr f_27))))), (q_7, .inl (cA_7, 5, .inr (.inr (.inr (.inr (fun _ => none))))))] ++ zW K V) ++ [(q_28, .inr (7, [.null, .int 0]))]) := hD
              refine W.widen (k := 20) (n := 41945) (by omega) (by omega) ?_
              refine lv_dup hx hb dX2_init_122 rfl ?_
              refine lv_iconst (v := 4) hx hb dX2_init_123 (by decide) ?_
              refine ccall (As := [.int 4]) (rest := [.ref q_28, .int 0, .ref q_7]) (k := 7) (X := [(h0, .inr (2, [.ref q_1, .ref q_2, .ref q_3, .ref q_4, .ref q_5, .ref q_6, .ref q_7, .null, .null, .int 0, .int 0, .int 0, .int 0, .int 0])), (q_5, .inl (cA_5, 4, .inr (.inr (.inr (.inr f_22))))), (q_6, .inl (cA_6, 5, .inr (.inr (.inr (.inr f_27))))), (q_7, .inl (cA_7, 5, .inr (.inr (.inr (.inr (fun _ => none))))))]) C (c_Row_init l D q_28 H.size 4 4 (by decide +kernel) (by decide +kernel) (by decide +kernel) (by decide +kernel)) (by decide) mc_X8_init (zt_t2 13 rfl rfl) ⟨Nat.le_of_ble_eq_true rfl, Nat.le_of_ble_eq_true rfl⟩ ⟨Nat.le_of_ble_eq_true rfl, Nat.le_of_ble_eq_true rfl⟩ hl.1 (Nat.le_of_ble_eq_true rfl) dX2_init_124 hC hP hD hS hA hAr hK hE (fun K V H locs hC hP hD hS hAr hle hq => ?_)
              have hz := hz.add hle hq
              have hr_q_5 := hr_q_5.le hle
              have hr_q_6 := hr_q_6.le hle
              have hr_q_7 := hr_q_7.le hle
              clear hle hq
              refine W.widen (k := 21) (n := 41949) (by omega) (by omega) ?_
              have hv := hz.get 0 rfl
              obtain ⟨i_29, hi⟩ := cat (X := [(h0, .inr (2, [.ref q_1, .ref q_2, .ref q_3, .ref q_4, .ref q_5, .ref q_6, .ref q_7, .null, .null, .int 0, .int 0, .int 0, .int 0, .int 0])), (q_5, .inl (cA_5, 4, .inr (.inr (.inr (.inr f_22))))), (q_6, .inl (cA_6, 5, .inr (.inr (.inr (.inr f_27))))), (q_7, .inl (cA_7, 5, .inr (.inr (.inr (.inr (fun _ => none))))))]) (V := V) hv
              rw [zF_7 hv.2.1] at hi
              refine va_astq hx hb hK hP hD hS 3 2 i_29 7 rfl rfl hi rfl (by unfold vp_in; decide +kernel) dX2_init_127 (fun H locs hP hD hS => ?_)
              have hP : va_P D vwCl ([(h0, .inr (2, [.ref q_1, .ref q_2, .ref q_3, .ref q_4, .ref q_5, .ref q_6, .ref q_7, .null, .null, .int 0, .int 0, .int 0, .int 0, .int 0])), (q_5, .inl (cA_5, 4, .inr (.inr (.inr (.inr f_22))))), (q_6, .inl (cA_6, 5, .inr (.inr (.inr (.inr f_27))))), (q_7, .inl (cA_7, 5, .inr (.inr (.inr (.inr (va_up (fun _ => none) 0 (some q_28)))))))] ++ zW K V) H := hP
              have hD : va_D A ([(h0, .inr (2, [.ref q_1, .ref q_2, .ref q_3, .ref q_4, .ref q_5, .ref q_6, .ref q_7, .null, .null, .int 0, .int 0, .int 0, .int 0, .int 0])), (q_5, .inl (cA_5, 4, .inr (.inr (.inr (.inr f_22))))), (q_6, .inl (cA_6, 5, .inr (.inr (.inr (.inr f_27))))), (q_7, .inl (cA_7, 5, .inr (.inr (.inr (.inr (va_up (fun _ => none) 0 (some q_28)))))))] ++ zW K V) := hD
              have hr_q_7 := hr_q_7.push hv
              generalize va_up (fun _ => none) 0 (some q_28) = f_29 at hP hD hr_q_7
              clear hv hi
              have hz : zats K [(q_4, 20, 60), (q_3, 20, 20736), (q_2, 20, 20736), (q_1, 5, 0)] := fun q h => hz q (List.mem_cons_of_mem _ h)
              refine lv_iinc (v := 1) (lv' := [(1, .int 1), (0, .ref h0)]) hx hb dX2_init_128 hl (k := 0) rfl (by decide) (by decide) rfl (fun ls hl => ?_)
              refine lv_goto (tgt := 95) hx hb dX2_init_131 (by decide) ?_
              refine lv_iload_n hx hb dX2_init_95 rfl (lv_at hl 0 rfl) ?_
              refine lv_iconst (v := 4) hx hb dX2_init_96 (by decide) ?_
              refine lv_icmp_gt (tgt := 134) hx hb dX2_init_97 (by decide) (fun c_31 => ?_) (fun c_31 => ?_)
              · exact absurd c_31 (by decide +kernel)
              · skip
                refine lv_aload_n hx hb dX2_init_100 rfl (lv_at hl 1 rfl) ?_
                refine va_get (D := D) (ci := 2) (v := .ref q_6) (C := RX2) (T := TX2) (N := 14) hx hb hts in_2 hown hK hP 0 rfl rfl 5 (by decide) (hts (.fieldLink RX2 36 "CardTables$Ends" "tricks" "[LCardTables$Row;") (zt_t2 19 rfl rfl)) (fun _ h9 => h9) rfl dX2_init_101 ?_
                refine lv_iload_n hx hb dX2_init_104 rfl (lv_at hl 0 rfl) ?_
                refine va_new (ci := 7) (fs := [.null, .int 0]) (C := RX8) (T := TX8) (N := 2) hx hb hts in_7 tyX8 tyX8_ok hown (hts (.classLink RX2 30 RX8) (zt_t2 12 rfl rfl)) (hts (.instantiable RX8 2) (zt_t1 35 rfl rfl)) (hts (.initialized RX8) (zt_t1 3 rfl rfl)) hK hP hD hS hA rfl (fun j hj => by rcases (show j = 0 ∨ j = 1 by omega) with rfl | rfl <;> rfl) (Nat.le_of_ble_eq_true rfl) (Nat.le_of_ble_eq_true rfl) dX2_init_105 (fun q_32 H hP hD hS => ?_)
                have hP : va_P D vwCl (([(h0, .inr (2, [.ref q_1, .ref q_2, .ref q_3, .ref q_4, .ref q_5, .ref q_6, .ref q_7, .null, .null, .int 0, .int 0, .int 0, .int 0, .int 0])), (q_5, .inl (cA_5, 4, .inr (.inr (.inr (.inr f_22))))), (q_6, .inl (cA_6, 5, .inr (.inr (.inr (.inr f_27))))), (q_7, .inl (cA_7, 5, .inr (.inr (.inr (.inr f_29)))))] ++ zW K V) ++ [(q_32, .inr (7, [.null, .int 0]))]) H := hP
                have hD : va_D A (([(h0, .inr (2, [.ref q_1, .ref q_2, .ref q_3, .ref q_4, .ref q_5, .ref q_6, .ref q_7, .null, .null, .int 0, .int 0, .int 0, .int 0, .int 0])), (q_5, .inl (cA_5, 4, .inr (.inr (.inr (.inr f_22))))), (q_6, .inl (cA_6, 5, .inr (.inr (.inr (.inr f_27))))), (q_7, .inl (cA_7, 5, .inr (.inr (.inr (.inr f_29)))))] ++ zW K V) ++ [(q_32, .inr (7, [.null, .int 0]))]) := hD
                refine W.widen (k := 22) (n := 41951) (by omega) (by omega) ?_
                refine lv_dup hx hb dX2_init_108 rfl ?_
                refine lv_iconst (v := 4) hx hb dX2_init_109 (by decide) ?_
                refine ccall (As := [.int 4]) (rest := [.ref q_32, .int 1, .ref q_6]) (k := 7) (X := [(h0, .inr (2, [.ref q_1, .ref q_2, .ref q_3, .ref q_4, .ref q_5, .ref q_6, .ref q_7, .null, .null, .int 0, .int 0, .int 0, .int 0, .int 0])), (q_5, .inl (cA_5, 4, .inr (.inr (.inr (.inr f_22))))), (q_6, .inl (cA_6, 5, .inr (.inr (.inr (.inr f_27))))), (q_7, .inl (cA_7, 5, .inr (.inr (.inr (.inr f_29)))))]) C (c_Row_init l D q_32 H.size 4 4 (by decide +kernel) (by decide +kernel) (by decide +kernel) (by decide +kernel)) (by decide) mc_X8_init (zt_t2 13 rfl rfl) ⟨Nat.le_of_ble_eq_true rfl, Nat.le_of_ble_eq_true rfl⟩ ⟨Nat.le_of_ble_eq_true rfl, Nat.le_of_ble_eq_true rfl⟩ hl.1 (Nat.le_of_ble_eq_true rfl) dX2_init_110 hC hP hD hS hA hAr hK hE (fun K V H locs hC hP hD hS hAr hle hq => ?_)
                have hz := hz.add hle hq
                have hr_q_5 := hr_q_5.le hle
                have hr_q_6 := hr_q_6.le hle
                have hr_q_7 := hr_q_7.le hle
                clear hle hq
                refine W.widen (k := 23) (n := 41955) (by omega) (by omega) ?_
                have hv := hz.get 0 rfl
                obtain ⟨i_33, hi⟩ := cat (X := [(h0, .inr (2, [.ref q_1, .ref q_2, .ref q_3, .ref q_4, .ref q_5, .ref q_6, .ref q_7, .null, .null, .int 0, .int 0, .int 0, .int 0, .int 0])), (q_5, .inl (cA_5, 4, .inr (.inr (.inr (.inr f_22))))), (q_6, .inl (cA_6, 5, .inr (.inr (.inr (.inr f_27))))), (q_7, .inl (cA_7, 5, .inr (.inr (.inr (.inr f_29)))))]) (V := V) hv
                rw [zF_7 hv.2.1] at hi
                refine va_astq hx hb hK hP hD hS 2 1 i_33 7 rfl rfl hi rfl (by unfold vp_in; decide +kernel) dX2_init_113 (fun H locs hP hD hS => ?_)
                have hP : va_P D vwCl ([(h0, .inr (2, [.ref q_1, .ref q_2, .ref q_3, .ref q_4, .ref q_5, .ref q_6, .ref q_7, .null, .null, .int 0, .int 0, .int 0, .int 0, .int 0])), (q_5, .inl (cA_5, 4, .inr (.inr (.inr (.inr f_22))))), (q_6, .inl (cA_6, 5, .inr (.inr (.inr (.inr (va_up f_27 1 (some q_32))))))), (q_7, .inl (cA_7, 5, .inr (.inr (.inr (.inr f_29)))))] ++ zW K V) H := hP
                have hD : va_D A ([(h0, .inr (2, [.ref q_1, .ref q_2, .ref q_3, .ref q_4, .ref q_5, .ref q_6, .ref q_7, .null, .null, .int 0, .int 0, .int 0, .int 0, .int 0])), (q_5, .inl (cA_5, 4, .inr (.inr (.inr (.inr f_22))))), (q_6, .inl (cA_6, 5, .inr (.inr (.inr (.inr (va_up f_27 1 (some q_32))))))), (q_7, .inl (cA_7, 5, .inr (.inr (.inr (.inr f_29)))))] ++ zW K V) := hD
                have hr_q_6 := hr_q_6.push hv
                generalize va_up f_27 1 (some q_32) = f_33 at hP hD hr_q_6
                clear hv hi
                have hz : zats K [(q_4, 20, 60), (q_3, 20, 20736), (q_2, 20, 20736), (q_1, 5, 0)] := fun q h => hz q (List.mem_cons_of_mem _ h)
                refine lv_aload_n hx hb dX2_init_114 rfl (lv_at hl 1 rfl) ?_
                refine va_get (D := D) (ci := 2) (v := .ref q_7) (C := RX2) (T := TX2) (N := 14) hx hb hts in_2 hown hK hP 0 rfl rfl 6 (by decide) (hts (.fieldLink RX2 39 "CardTables$Ends" "layers" "[LCardTables$Row;") (zt_t2 20 rfl rfl)) (fun _ h9 => h9) rfl dX2_init_115 ?_
                refine lv_iload_n hx hb dX2_init_118 rfl (lv_at hl 0 rfl) ?_
                refine va_new (ci := 7) (fs := [.null, .int 0]) (C := RX8) (T := TX8) (N := 2) hx hb hts in_7 tyX8 tyX8_ok hown (hts (.classLink RX2 30 RX8) (zt_t2 12 rfl rfl)) (hts (.instantiable RX8 2) (zt_t1 35 rfl rfl)) (hts (.initialized RX8) (zt_t1 3 rfl rfl)) hK hP hD hS hA rfl (fun j hj => by rcases (show j = 0 ∨ j = 1 by omega) with rfl | rfl <;> rfl) (Nat.le_of_ble_eq_true rfl) (Nat.le_of_ble_eq_true rfl) dX2_init_119 (fun q_34 H hP hD hS => ?_)
                have hP : va_P D vwCl (([(h0, .inr (2, [.ref q_1, .ref q_2, .ref q_3, .ref q_4, .ref q_5, .ref q_6, .ref q_7, .null, .null, .int 0, .int 0, .int 0, .int 0, .int 0])), (q_5, .inl (cA_5, 4, .inr (.inr (.inr (.inr f_22))))), (q_6, .inl (cA_6, 5, .inr (.inr (.inr (.inr f_33))))), (q_7, .inl (cA_7, 5, .inr (.inr (.inr (.inr f_29)))))] ++ zW K V) ++ [(q_34, .inr (7, [.null, .int 0]))]) H := hP
                have hD : va_D A (([(h0, .inr (2, [.ref q_1, .ref q_2, .ref q_3, .ref q_4, .ref q_5, .ref q_6, .ref q_7, .null, .null, .int 0, .int 0, .int 0, .int 0, .int 0])), (q_5, .inl (cA_5, 4, .inr (.inr (.inr (.inr f_22))))), (q_6, .inl (cA_6, 5, .inr (.inr (.inr (.inr f_33))))), (q_7, .inl (cA_7, 5, .inr (.inr (.inr (.inr f_29)))))] ++ zW K V) ++ [(q_34, .inr (7, [.null, .int 0]))]) := hD
                refine W.widen (k := 24) (n := 41957) (by omega) (by omega) ?_
                refine lv_dup hx hb dX2_init_122 rfl ?_
                refine lv_iconst (v := 4) hx hb dX2_init_123 (by decide) ?_
                refine ccall (As := [.int 4]) (rest := [.ref q_34, .int 1, .ref q_7]) (k := 7) (X := [(h0, .inr (2, [.ref q_1, .ref q_2, .ref q_3, .ref q_4, .ref q_5, .ref q_6, .ref q_7, .null, .null, .int 0, .int 0, .int 0, .int 0, .int 0])), (q_5, .inl (cA_5, 4, .inr (.inr (.inr (.inr f_22))))), (q_6, .inl (cA_6, 5, .inr (.inr (.inr (.inr f_33))))), (q_7, .inl (cA_7, 5, .inr (.inr (.inr (.inr f_29)))))]) C (c_Row_init l D q_34 H.size 4 4 (by decide +kernel) (by decide +kernel) (by decide +kernel) (by decide +kernel)) (by decide) mc_X8_init (zt_t2 13 rfl rfl) ⟨Nat.le_of_ble_eq_true rfl, Nat.le_of_ble_eq_true rfl⟩ ⟨Nat.le_of_ble_eq_true rfl, Nat.le_of_ble_eq_true rfl⟩ hl.1 (Nat.le_of_ble_eq_true rfl) dX2_init_124 hC hP hD hS hA hAr hK hE (fun K V H locs hC hP hD hS hAr hle hq => ?_)
                have hz := hz.add hle hq
                have hr_q_5 := hr_q_5.le hle
                have hr_q_6 := hr_q_6.le hle
                have hr_q_7 := hr_q_7.le hle
                clear hle hq
                refine W.widen (k := 25) (n := 41961) (by omega) (by omega) ?_
                have hv := hz.get 0 rfl
                obtain ⟨i_35, hi⟩ := cat (X := [(h0, .inr (2, [.ref q_1, .ref q_2, .ref q_3, .ref q_4, .ref q_5, .ref q_6, .ref q_7, .null, .null, .int 0, .int 0, .int 0, .int 0, .int 0])), (q_5, .inl (cA_5, 4, .inr (.inr (.inr (.inr f_22))))), (q_6, .inl (cA_6, 5, .inr (.inr (.inr (.inr f_33))))), (q_7, .inl (cA_7, 5, .inr (.inr (.inr (.inr f_29)))))]) (V := V) hv
                rw [zF_7 hv.2.1] at hi
                refine va_astq hx hb hK hP hD hS 3 2 i_35 7 rfl rfl hi rfl (by unfold vp_in; decide +kernel) dX2_init_127 (fun H locs hP hD hS => ?_)
                have hP : va_P D vwCl ([(h0, .inr (2, [.ref q_1, .ref q_2, .ref q_3, .ref q_4, .ref q_5, .ref q_6, .ref q_7, .null, .null, .int 0, .int 0, .int 0, .int 0, .int 0])), (q_5, .inl (cA_5, 4, .inr (.inr (.inr (.inr f_22))))), (q_6, .inl (cA_6, 5, .inr (.inr (.inr (.inr f_33))))), (q_7, .inl (cA_7, 5, .inr (.inr (.inr (.inr (va_up f_29 1 (some q_34)))))))] ++ zW K V) H := hP
                have hD : va_D A ([(h0, .inr (2, [.ref q_1, .ref q_2, .ref q_3, .ref q_4, .ref q_5, .ref q_6, .ref q_7, .null, .null, .int 0, .int 0, .int 0, .int 0, .int 0])), (q_5, .inl (cA_5, 4, .inr (.inr (.inr (.inr f_22))))), (q_6, .inl (cA_6, 5, .inr (.inr (.inr (.inr f_33))))), (q_7, .inl (cA_7, 5, .inr (.inr (.inr (.inr (va_up f_29 1 (some q_34)))))))] ++ zW K V) := hD
                have hr_q_7 := hr_q_7.push hv
                generalize va_up f_29 1 (some q_34) = f_35 at hP hD hr_q_7
                clear hv hi
                have hz : zats K [(q_4, 20, 60), (q_3, 20, 20736), (q_2, 20, 20736), (q_1, 5, 0)] := fun q h => hz q (List.mem_cons_of_mem _ h)
                refine lv_iinc (v := 2) (lv' := [(1, .int 2), (0, .ref h0)]) hx hb dX2_init_128 hl (k := 0) rfl (by decide) (by decide) rfl (fun ls hl => ?_)
                refine lv_goto (tgt := 95) hx hb dX2_init_131 (by decide) ?_
                refine lv_iload_n hx hb dX2_init_95 rfl (lv_at hl 0 rfl) ?_
                refine lv_iconst (v := 4) hx hb dX2_init_96 (by decide) ?_
                refine lv_icmp_gt (tgt := 134) hx hb dX2_init_97 (by decide) (fun c_37 => ?_) (fun c_37 => ?_)
                · exact absurd c_37 (by decide +kernel)
                · skip
                  refine lv_aload_n hx hb dX2_init_100 rfl (lv_at hl 1 rfl) ?_
                  refine va_get (D := D) (ci := 2) (v := .ref q_6) (C := RX2) (T := TX2) (N := 14) hx hb hts in_2 hown hK hP 0 rfl rfl 5 (by decide) (hts (.fieldLink RX2 36 "CardTables$Ends" "tricks" "[LCardTables$Row;") (zt_t2 19 rfl rfl)) (fun _ h9 => h9) rfl dX2_init_101 ?_
                  refine lv_iload_n hx hb dX2_init_104 rfl (lv_at hl 0 rfl) ?_
                  refine va_new (ci := 7) (fs := [.null, .int 0]) (C := RX8) (T := TX8) (N := 2) hx hb hts in_7 tyX8 tyX8_ok hown (hts (.classLink RX2 30 RX8) (zt_t2 12 rfl rfl)) (hts (.instantiable RX8 2) (zt_t1 35 rfl rfl)) (hts (.initialized RX8) (zt_t1 3 rfl rfl)) hK hP hD hS hA rfl (fun j hj => by rcases (show j = 0 ∨ j = 1 by omega) with rfl | rfl <;> rfl) (Nat.le_of_ble_eq_true rfl) (Nat.le_of_ble_eq_true rfl) dX2_init_105 (fun q_38 H hP hD hS => ?_)
                  have hP : va_P D vwCl (([(h0, .inr (2, [.ref q_1, .ref q_2, .ref q_3, .ref q_4, .ref q_5, .ref q_6, .ref q_7, .null, .null, .int 0, .int 0, .int 0, .int 0, .int 0])), (q_5, .inl (cA_5, 4, .inr (.inr (.inr (.inr f_22))))), (q_6, .inl (cA_6, 5, .inr (.inr (.inr (.inr f_33))))), (q_7, .inl (cA_7, 5, .inr (.inr (.inr (.inr f_35)))))] ++ zW K V) ++ [(q_38, .inr (7, [.null, .int 0]))]) H := hP
                  have hD : va_D A (([(h0, .inr (2, [.ref q_1, .ref q_2, .ref q_3, .ref q_4, .ref q_5, .ref q_6, .ref q_7, .null, .null, .int 0, .int 0, .int 0, .int 0, .int 0])), (q_5, .inl (cA_5, 4, .inr (.inr (.inr (.inr f_22))))), (q_6, .inl (cA_6, 5, .inr (.inr (.inr (.inr f_33))))), (q_7, .inl (cA_7, 5, .inr (.inr (.inr (.inr f_35)))))] ++ zW K V) ++ [(q_38, .inr (7, [.null, .int 0]))]) := hD
                  refine W.widen (k := 26) (n := 41963) (by omega) (by omega) ?_
                  refine lv_dup hx hb dX2_init_108 rfl ?_
                  refine lv_iconst (v := 4) hx hb dX2_init_109 (by decide) ?_
                  refine ccall (As := [.int 4]) (rest := [.ref q_38, .int 2, .ref q_6]) (k := 7) (X := [(h0, .inr (2, [.ref q_1, .ref q_2, .ref q_3, .ref q_4, .ref q_5, .ref q_6, .ref q_7, .null, .null, .int 0, .int 0, .int 0, .int 0, .int 0])), (q_5, .inl (cA_5, 4, .inr (.inr (.inr (.inr f_22))))), (q_6, .inl (cA_6, 5, .inr (.inr (.inr (.inr f_33))))), (q_7, .inl (cA_7, 5, .inr (.inr (.inr (.inr f_35)))))]) C (c_Row_init l D q_38 H.size 4 4 (by decide +kernel) (by decide +kernel) (by decide +kernel) (by decide +kernel)) (by decide) mc_X8_init (zt_t2 13 rfl rfl) ⟨Nat.le_of_ble_eq_true rfl, Nat.le_of_ble_eq_true rfl⟩ ⟨Nat.le_of_ble_eq_true rfl, Nat.le_of_ble_eq_true rfl⟩ hl.1 (Nat.le_of_ble_eq_true rfl) dX2_init_110 hC hP hD hS hA hAr hK hE (fun K V H locs hC hP hD hS hAr hle hq => ?_)
                  have hz := hz.add hle hq
                  have hr_q_5 := hr_q_5.le hle
                  have hr_q_6 := hr_q_6.le hle
                  have hr_q_7 := hr_q_7.le hle
                  clear hle hq
                  refine W.widen (k := 27) (n := 41967) (by omega) (by omega) ?_
                  have hv := hz.get 0 rfl
                  obtain ⟨i_39, hi⟩ := cat (X := [(h0, .inr (2, [.ref q_1, .ref q_2, .ref q_3, .ref q_4, .ref q_5, .ref q_6, .ref q_7, .null, .null, .int 0, .int 0, .int 0, .int 0, .int 0])), (q_5, .inl (cA_5, 4, .inr (.inr (.inr (.inr f_22))))), (q_6, .inl (cA_6, 5, .inr (.inr (.inr (.inr f_33))))), (q_7, .inl (cA_7, 5, .inr (.inr (.inr (.inr f_35)))))]) (V := V) hv
                  rw [zF_7 hv.2.1] at hi
                  refine va_astq hx hb hK hP hD hS 2 1 i_39 7 rfl rfl hi rfl (by unfold vp_in; decide +kernel) dX2_init_113 (fun H locs hP hD hS => ?_)
                  have hP : va_P D vwCl ([(h0, .inr (2, [.ref q_1, .ref q_2, .ref q_3, .ref q_4, .ref q_5, .ref q_6, .ref q_7, .null, .null, .int 0, .int 0, .int 0, .int 0, .int 0])), (q_5, .inl (cA_5, 4, .inr (.inr (.inr (.inr f_22))))), (q_6, .inl (cA_6, 5, .inr (.inr (.inr (.inr (va_up f_33 2 (some q_38))))))), (q_7, .inl (cA_7, 5, .inr (.inr (.inr (.inr f_35)))))] ++ zW K V) H := hP
                  have hD : va_D A ([(h0, .inr (2, [.ref q_1, .ref q_2, .ref q_3, .ref q_4, .ref q_5, .ref q_6, .ref q_7, .null, .null, .int 0, .int 0, .int 0, .int 0, .int 0])), (q_5, .inl (cA_5, 4, .inr (.inr (.inr (.inr f_22))))), (q_6, .inl (cA_6, 5, .inr (.inr (.inr (.inr (va_up f_33 2 (some q_38))))))), (q_7, .inl (cA_7, 5, .inr (.inr (.inr (.inr f_35)))))] ++ zW K V) := hD
                  have hr_q_6 := hr_q_6.push hv
                  generalize va_up f_33 2 (some q_38) = f_39 at hP hD hr_q_6
                  clear hv hi
                  have hz : zats K [(q_4, 20, 60), (q_3, 20, 20736), (q_2, 20, 20736), (q_1, 5, 0)] := fun q h => hz q (List.mem_cons_of_mem _ h)
                  refine lv_aload_n hx hb dX2_init_114 rfl (lv_at hl 1 rfl) ?_
                  refine va_get (D := D) (ci := 2) (v := .ref q_7) (C := RX2) (T := TX2) (N := 14) hx hb hts in_2 hown hK hP 0 rfl rfl 6 (by decide) (hts (.fieldLink RX2 39 "CardTables$Ends" "layers" "[LCardTables$Row;") (zt_t2 20 rfl rfl)) (fun _ h9 => h9) rfl dX2_init_115 ?_
                  refine lv_iload_n hx hb dX2_init_118 rfl (lv_at hl 0 rfl) ?_
                  refine va_new (ci := 7) (fs := [.null, .int 0]) (C := RX8) (T := TX8) (N := 2) hx hb hts in_7 tyX8 tyX8_ok hown (hts (.classLink RX2 30 RX8) (zt_t2 12 rfl rfl)) (hts (.instantiable RX8 2) (zt_t1 35 rfl rfl)) (hts (.initialized RX8) (zt_t1 3 rfl rfl)) hK hP hD hS hA rfl (fun j hj => by rcases (show j = 0 ∨ j = 1 by omega) with rfl | rfl <;> rfl) (Nat.le_of_ble_eq_true rfl) (Nat.le_of_ble_eq_true rfl) dX2_init_119 (fun q_40 H hP hD hS => ?_)
                  have hP : va_P D vwCl (([(h0, .inr (2, [.ref q_1, .ref q_2, .ref q_3, .ref q_4, .ref q_5, .ref q_6, .ref q_7, .null, .null, .int 0, .int 0, .int 0, .int 0, .int 0])), (q_5, .inl (cA_5, 4, .inr (.inr (.inr (.inr f_22))))), (q_6, .inl (cA_6, 5, .inr (.inr (.inr (.inr f_39))))), (q_7, .inl (cA_7, 5, .inr (.inr (.inr (.inr f_35)))))] ++ zW K V) ++ [(q_40, .inr (7, [.null, .int 0]))]) H := hP
                  have hD : va_D A (([(h0, .inr (2, [.ref q_1, .ref q_2, .ref q_3, .ref q_4, .ref q_5, .ref q_6, .ref q_7, .null, .null, .int 0, .int 0, .int 0, .int 0, .int 0])), (q_5, .inl (cA_5, 4, .inr (.inr (.inr (.inr f_22))))), (q_6, .inl (cA_6, 5, .inr (.inr (.inr (.inr f_39))))), (q_7, .inl (cA_7, 5, .inr (.inr (.inr (.inr f_35)))))] ++ zW K V) ++ [(q_40, .inr (7, [.null, .int 0]))]) := hD
                  refine W.widen (k := 28) (n := 41969) (by omega) (by omega) ?_
                  refine lv_dup hx hb dX2_init_122 rfl ?_
                  refine lv_iconst (v := 4) hx hb dX2_init_123 (by decide) ?_
                  refine ccall (As := [.int 4]) (rest := [.ref q_40, .int 2, .ref q_7]) (k := 7) (X := [(h0, .inr (2, [.ref q_1, .ref q_2, .ref q_3, .ref q_4, .ref q_5, .ref q_6, .ref q_7, .null, .null, .int 0, .int 0, .int 0, .int 0, .int 0])), (q_5, .inl (cA_5, 4, .inr (.inr (.inr (.inr f_22))))), (q_6, .inl (cA_6, 5, .inr (.inr (.inr (.inr f_39))))), (q_7, .inl (cA_7, 5, .inr (.inr (.inr (.inr f_35)))))]) C (c_Row_init l D q_40 H.size 4 4 (by decide +kernel) (by decide +kernel) (by decide +kernel) (by decide +kernel)) (by decide) mc_X8_init (zt_t2 13 rfl rfl) ⟨Nat.le_of_ble_eq_true rfl, Nat.le_of_ble_eq_true rfl⟩ ⟨Nat.le_of_ble_eq_true rfl, Nat.le_of_ble_eq_true rfl⟩ hl.1 (Nat.le_of_ble_eq_true rfl) dX2_init_124 hC hP hD hS hA hAr hK hE (fun K V H locs hC hP hD hS hAr hle hq => ?_)
                  have hz := hz.add hle hq
                  have hr_q_5 := hr_q_5.le hle
                  have hr_q_6 := hr_q_6.le hle
                  have hr_q_7 := hr_q_7.le hle
                  clear hle hq
                  refine W.widen (k := 29) (n := 41973) (by omega) (by omega) ?_
                  have hv := hz.get 0 rfl
                  obtain ⟨i_41, hi⟩ := cat (X := [(h0, .inr (2, [.ref q_1, .ref q_2, .ref q_3, .ref q_4, .ref q_5, .ref q_6, .ref q_7, .null, .null, .int 0, .int 0, .int 0, .int 0, .int 0])), (q_5, .inl (cA_5, 4, .inr (.inr (.inr (.inr f_22))))), (q_6, .inl (cA_6, 5, .inr (.inr (.inr (.inr f_39))))), (q_7, .inl (cA_7, 5, .inr (.inr (.inr (.inr f_35)))))]) (V := V) hv
                  rw [zF_7 hv.2.1] at hi
                  refine va_astq hx hb hK hP hD hS 3 2 i_41 7 rfl rfl hi rfl (by unfold vp_in; decide +kernel) dX2_init_127 (fun H locs hP hD hS => ?_)
                  have hP : va_P D vwCl ([(h0, .inr (2, [.ref q_1, .ref q_2, .ref q_3, .ref q_4, .ref q_5, .ref q_6, .ref q_7, .null, .null, .int 0, .int 0, .int 0, .int 0, .int 0])), (q_5, .inl (cA_5, 4, .inr (.inr (.inr (.inr f_22))))), (q_6, .inl (cA_6, 5, .inr (.inr (.inr (.inr f_39))))), (q_7, .inl (cA_7, 5, .inr (.inr (.inr (.inr (va_up f_35 2 (some q_40)))))))] ++ zW K V) H := hP
                  have hD : va_D A ([(h0, .inr (2, [.ref q_1, .ref q_2, .ref q_3, .ref q_4, .ref q_5, .ref q_6, .ref q_7, .null, .null, .int 0, .int 0, .int 0, .int 0, .int 0])), (q_5, .inl (cA_5, 4, .inr (.inr (.inr (.inr f_22))))), (q_6, .inl (cA_6, 5, .inr (.inr (.inr (.inr f_39))))), (q_7, .inl (cA_7, 5, .inr (.inr (.inr (.inr (va_up f_35 2 (some q_40)))))))] ++ zW K V) := hD
                  have hr_q_7 := hr_q_7.push hv
                  generalize va_up f_35 2 (some q_40) = f_41 at hP hD hr_q_7
                  clear hv hi
                  have hz : zats K [(q_4, 20, 60), (q_3, 20, 20736), (q_2, 20, 20736), (q_1, 5, 0)] := fun q h => hz q (List.mem_cons_of_mem _ h)
                  refine lv_iinc (v := 3) (lv' := [(1, .int 3), (0, .ref h0)]) hx hb dX2_init_128 hl (k := 0) rfl (by decide) (by decide) rfl (fun ls hl => ?_)
                  refine lv_goto (tgt := 95) hx hb dX2_init_131 (by decide) ?_
                  refine lv_iload_n hx hb dX2_init_95 rfl (lv_at hl 0 rfl) ?_
                  refine lv_iconst (v := 4) hx hb dX2_init_96 (by decide) ?_
                  refine lv_icmp_gt (tgt := 134) hx hb dX2_init_97 (by decide) (fun c_43 => ?_) (fun c_43 => ?_)
                  · exact absurd c_43 (by decide +kernel)
                  · skip
                    refine lv_aload_n hx hb dX2_init_100 rfl (lv_at hl 1 rfl) ?_
                    refine va_get (D := D) (ci := 2) (v := .ref q_6) (C := RX2) (T := TX2) (N := 14) hx hb hts in_2 hown hK hP 0 rfl rfl 5 (by decide) (hts (.fieldLink RX2 36 "CardTables$Ends" "tricks" "[LCardTables$Row;") (zt_t2 19 rfl rfl)) (fun _ h9 => h9) rfl dX2_init_101 ?_
                    refine lv_iload_n hx hb dX2_init_104 rfl (lv_at hl 0 rfl) ?_
                    refine va_new (ci := 7) (fs := [.null, .int 0]) (C := RX8) (T := TX8) (N := 2) hx hb hts in_7 tyX8 tyX8_ok hown (hts (.classLink RX2 30 RX8) (zt_t2 12 rfl rfl)) (hts (.instantiable RX8 2) (zt_t1 35 rfl rfl)) (hts (.initialized RX8) (zt_t1 3 rfl rfl)) hK hP hD hS hA rfl (fun j hj => by rcases (show j = 0 ∨ j = 1 by omega) with rfl | rfl <;> rfl) (Nat.le_of_ble_eq_true rfl) (Nat.le_of_ble_eq_true rfl) dX2_init_105 (fun q_44 H hP hD hS => ?_)
                    have hP : va_P D vwCl (([(h0, .inr (2, [.ref q_1, .ref q_2, .ref q_3, .ref q_4, .ref q_5, .ref q_6, .ref q_7, .null, .null, .int 0, .int 0, .int 0, .int 0, .int 0])), (q_5, .inl (cA_5, 4, .inr (.inr (.inr (.inr f_22))))), (q_6, .inl (cA_6, 5, .inr (.inr (.inr (.inr f_39))))), (q_7, .inl (cA_7, 5, .inr (.inr (.inr (.inr f_41)))))] ++ zW K V) ++ [(q_44, .inr (7, [.null, .int 0]))]) H := hP
                    have hD : va_D A (([(h0, .inr (2, [.ref q_1, .ref q_2, .ref q_3, .ref q_4, .ref q_5, .ref q_6, .ref q_7, .null, .null, .int 0, .int 0, .int 0, .int 0, .int 0])), (q_5, .inl (cA_5, 4, .inr (.inr (.inr (.inr f_22))))), (q_6, .inl (cA_6, 5, .inr (.inr (.inr (.inr f_39))))), (q_7, .inl (cA_7, 5, .inr (.inr (.inr (.inr f_41)))))] ++ zW K V) ++ [(q_44, .inr (7, [.null, .int 0]))]) := hD
                    refine W.widen (k := 30) (n := 41975) (by omega) (by omega) ?_
                    refine lv_dup hx hb dX2_init_108 rfl ?_
                    refine lv_iconst (v := 4) hx hb dX2_init_109 (by decide) ?_
                    refine ccall (As := [.int 4]) (rest := [.ref q_44, .int 3, .ref q_6]) (k := 7) (X := [(h0, .inr (2, [.ref q_1, .ref q_2, .ref q_3, .ref q_4, .ref q_5, .ref q_6, .ref q_7, .null, .null, .int 0, .int 0, .int 0, .int 0, .int 0])), (q_5, .inl (cA_5, 4, .inr (.inr (.inr (.inr f_22))))), (q_6, .inl (cA_6, 5, .inr (.inr (.inr (.inr f_39))))), (q_7, .inl (cA_7, 5, .inr (.inr (.inr (.inr f_41)))))]) C (c_Row_init l D q_44 H.size 4 4 (by decide +kernel) (by decide +kernel) (by decide +kernel) (by decide +kernel)) (by decide) mc_X8_init (zt_t2 13 rfl rfl) ⟨Nat.le_of_ble_eq_true rfl, Nat.le_of_ble_eq_true rfl⟩ ⟨Nat.le_of_ble_eq_true rfl, Nat.le_of_ble_eq_true rfl⟩ hl.1 (Nat.le_of_ble_eq_true rfl) dX2_init_110 hC hP hD hS hA hAr hK hE (fun K V H locs hC hP hD hS hAr hle hq => ?_)
                    have hz := hz.add hle hq
                    have hr_q_5 := hr_q_5.le hle
                    have hr_q_6 := hr_q_6.le hle
                    have hr_q_7 := hr_q_7.le hle
                    clear hle hq
                    refine W.widen (k := 31) (n := 41979) (by omega) (by omega) ?_
                    have hv := hz.get 0 rfl
                    obtain ⟨i_45, hi⟩ := cat (X := [(h0, .inr (2, [.ref q_1, .ref q_2, .ref q_3, .ref q_4, .ref q_5, .ref q_6, .ref q_7, .null, .null, .int 0, .int 0, .int 0, .int 0, .int 0])), (q_5, .inl (cA_5, 4, .inr (.inr (.inr (.inr f_22))))), (q_6, .inl (cA_6, 5, .inr (.inr (.inr (.inr f_39))))), (q_7, .inl (cA_7, 5, .inr (.inr (.inr (.inr f_41)))))]) (V := V) hv
                    rw [zF_7 hv.2.1] at hi
                    refine va_astq hx hb hK hP hD hS 2 1 i_45 7 rfl rfl hi rfl (by unfold vp_in; decide +kernel) dX2_init_113 (fun H locs hP hD hS => ?_)
                    have hP : va_P D vwCl ([(h0, .inr (2, [.ref q_1, .ref q_2, .ref q_3, .ref q_4, .ref q_5, .ref q_6, .ref q_7, .null, .null, .int 0, .int 0, .int 0, .int 0, .int 0])), (q_5, .inl (cA_5, 4, .inr (.inr (.inr (.inr f_22))))), (q_6, .inl (cA_6, 5, .inr (.inr (.inr (.inr (va_up f_39 3 (some q_44))))))), (q_7, .inl (cA_7, 5, .inr (.inr (.inr (.inr f_41)))))] ++ zW K V) H := hP
                    have hD : va_D A ([(h0, .inr (2, [.ref q_1, .ref q_2, .ref q_3, .ref q_4, .ref q_5, .ref q_6, .ref q_7, .null, .null, .int 0, .int 0, .int 0, .int 0, .int 0])), (q_5, .inl (cA_5, 4, .inr (.inr (.inr (.inr f_22))))), (q_6, .inl (cA_6, 5, .inr (.inr (.inr (.inr (va_up f_39 3 (some q_44))))))), (q_7, .inl (cA_7, 5, .inr (.inr (.inr (.inr f_41)))))] ++ zW K V) := hD
                    have hr_q_6 := hr_q_6.push hv
                    generalize va_up f_39 3 (some q_44) = f_45 at hP hD hr_q_6
                    clear hv hi
                    have hz : zats K [(q_4, 20, 60), (q_3, 20, 20736), (q_2, 20, 20736), (q_1, 5, 0)] := fun q h => hz q (List.mem_cons_of_mem _ h)
                    refine lv_aload_n hx hb dX2_init_114 rfl (lv_at hl 1 rfl) ?_
                    refine va_get (D := D) (ci := 2) (v := .ref q_7) (C := RX2) (T := TX2) (N := 14) hx hb hts in_2 hown hK hP 0 rfl rfl 6 (by decide) (hts (.fieldLink RX2 39 "CardTables$Ends" "layers" "[LCardTables$Row;") (zt_t2 20 rfl rfl)) (fun _ h9 => h9) rfl dX2_init_115 ?_
                    refine lv_iload_n hx hb dX2_init_118 rfl (lv_at hl 0 rfl) ?_
                    refine va_new (ci := 7) (fs := [.null, .int 0]) (C := RX8) (T := TX8) (N := 2) hx hb hts in_7 tyX8 tyX8_ok hown (hts (.classLink RX2 30 RX8) (zt_t2 12 rfl rfl)) (hts (.instantiable RX8 2) (zt_t1 35 rfl rfl)) (hts (.initialized RX8) (zt_t1 3 rfl rfl)) hK hP hD hS hA rfl (fun j hj => by rcases (show j = 0 ∨ j = 1 by omega) with rfl | rfl <;> rfl) (Nat.le_of_ble_eq_true rfl) (Nat.le_of_ble_eq_true rfl) dX2_init_119 (fun q_46 H hP hD hS => ?_)
                    have hP : va_P D vwCl (([(h0, .inr (2, [.ref q_1, .ref q_2, .ref q_3, .ref q_4, .ref q_5, .ref q_6, .ref q_7, .null, .null, .int 0, .int 0, .int 0, .int 0, .int 0])), (q_5, .inl (cA_5, 4, .inr (.inr (.inr (.inr f_22))))), (q_6, .inl (cA_6, 5, .inr (.inr (.inr (.inr f_45))))), (q_7, .inl (cA_7, 5, .inr (.inr (.inr (.inr f_41)))))] ++ zW K V) ++ [(q_46, .inr (7, [.null, .int 0]))]) H := hP
                    have hD : va_D A (([(h0, .inr (2, [.ref q_1, .ref q_2, .ref q_3, .ref q_4, .ref q_5, .ref q_6, .ref q_7, .null, .null, .int 0, .int 0, .int 0, .int 0, .int 0])), (q_5, .inl (cA_5, 4, .inr (.inr (.inr (.inr f_22))))), (q_6, .inl (cA_6, 5, .inr (.inr (.inr (.inr f_45))))), (q_7, .inl (cA_7, 5, .inr (.inr (.inr (.inr f_41)))))] ++ zW K V) ++ [(q_46, .inr (7, [.null, .int 0]))]) := hD
                    refine W.widen (k := 32) (n := 41981) (by omega) (by omega) ?_
                    refine lv_dup hx hb dX2_init_122 rfl ?_
                    refine lv_iconst (v := 4) hx hb dX2_init_123 (by decide) ?_
                    refine ccall (As := [.int 4]) (rest := [.ref q_46, .int 3, .ref q_7]) (k := 7) (X := [(h0, .inr (2, [.ref q_1, .ref q_2, .ref q_3, .ref q_4, .ref q_5, .ref q_6, .ref q_7, .null, .null, .int 0, .int 0, .int 0, .int 0, .int 0])), (q_5, .inl (cA_5, 4, .inr (.inr (.inr (.inr f_22))))), (q_6, .inl (cA_6, 5, .inr (.inr (.inr (.inr f_45))))), (q_7, .inl (cA_7, 5, .inr (.inr (.inr (.inr f_41)))))]) C (c_Row_init l D q_46 H.size 4 4 (by decide +kernel) (by decide +kernel) (by decide +kernel) (by decide +kernel)) (by decide) mc_X8_init (zt_t2 13 rfl rfl) ⟨Nat.le_of_ble_eq_true rfl, Nat.le_of_ble_eq_true rfl⟩ ⟨Nat.le_of_ble_eq_true rfl, Nat.le_of_ble_eq_true rfl⟩ hl.1 (Nat.le_of_ble_eq_true rfl) dX2_init_124 hC hP hD hS hA hAr hK hE (fun K V H locs hC hP hD hS hAr hle hq => ?_)
                    have hz := hz.add hle hq
                    have hr_q_5 := hr_q_5.le hle
                    have hr_q_6 := hr_q_6.le hle
                    have hr_q_7 := hr_q_7.le hle
                    clear hle hq
                    refine W.widen (k := 33) (n := 41985) (by omega) (by omega) ?_
                    have hv := hz.get 0 rfl
                    obtain ⟨i_47, hi⟩ := cat (X := [(h0, .inr (2, [.ref q_1, .ref q_2, .ref q_3, .ref q_4, .ref q_5, .ref q_6, .ref q_7, .null, .null, .int 0, .int 0, .int 0, .int 0, .int 0])), (q_5, .inl (cA_5, 4, .inr (.inr (.inr (.inr f_22))))), (q_6, .inl (cA_6, 5, .inr (.inr (.inr (.inr f_45))))), (q_7, .inl (cA_7, 5, .inr (.inr (.inr (.inr f_41)))))]) (V := V) hv
                    rw [zF_7 hv.2.1] at hi
                    refine va_astq hx hb hK hP hD hS 3 2 i_47 7 rfl rfl hi rfl (by unfold vp_in; decide +kernel) dX2_init_127 (fun H locs hP hD hS => ?_)
                    have hP : va_P D vwCl ([(h0, .inr (2, [.ref q_1, .ref q_2, .ref q_3, .ref q_4, .ref q_5, .ref q_6, .ref q_7, .null, .null, .int 0, .int 0, .int 0, .int 0, .int 0])), (q_5, .inl (cA_5, 4, .inr (.inr (.inr (.inr f_22))))), (q_6, .inl (cA_6, 5, .inr (.inr (.inr (.inr f_45))))), (q_7, .inl (cA_7, 5, .inr (.inr (.inr (.inr (va_up f_41 3 (some q_46)))))))] ++ zW K V) H := hP
                    have hD : va_D A ([(h0, .inr (2, [.ref q_1, .ref q_2, .ref q_3, .ref q_4, .ref q_5, .ref q_6, .ref q_7, .null, .null, .int 0, .int 0, .int 0, .int 0, .int 0])), (q_5, .inl (cA_5, 4, .inr (.inr (.inr (.inr f_22))))), (q_6, .inl (cA_6, 5, .inr (.inr (.inr (.inr f_45))))), (q_7, .inl (cA_7, 5, .inr (.inr (.inr (.inr (va_up f_41 3 (some q_46)))))))] ++ zW K V) := hD
                    have hr_q_7 := hr_q_7.push hv
                    generalize va_up f_41 3 (some q_46) = f_47 at hP hD hr_q_7
                    clear hv hi
                    have hz : zats K [(q_4, 20, 60), (q_3, 20, 20736), (q_2, 20, 20736), (q_1, 5, 0)] := fun q h => hz q (List.mem_cons_of_mem _ h)
                    refine lv_iinc (v := 4) (lv' := [(1, .int 4), (0, .ref h0)]) hx hb dX2_init_128 hl (k := 0) rfl (by decide) (by decide) rfl (fun ls hl => ?_)
                    refine lv_goto (tgt := 95) hx hb dX2_init_131 (by decide) ?_
                    refine lv_iload_n hx hb dX2_init_95 rfl (lv_at hl 0 rfl) ?_
                    refine lv_iconst (v := 4) hx hb dX2_init_96 (by decide) ?_
                    refine lv_icmp_gt (tgt := 134) hx hb dX2_init_97 (by decide) (fun c_49 => ?_) (fun c_49 => ?_)
                    · exact absurd c_49 (by decide +kernel)
                    · skip
                      refine lv_aload_n hx hb dX2_init_100 rfl (lv_at hl 1 rfl) ?_
                      refine va_get (D := D) (ci := 2) (v := .ref q_6) (C := RX2) (T := TX2) (N := 14) hx hb hts in_2 hown hK hP 0 rfl rfl 5 (by decide) (hts (.fieldLink RX2 36 "CardTables$Ends" "tricks" "[LCardTables$Row;") (zt_t2 19 rfl rfl)) (fun _ h9 => h9) rfl dX2_init_101 ?_
                      refine lv_iload_n hx hb dX2_init_104 rfl (lv_at hl 0 rfl) ?_
                      refine va_new (ci := 7) (fs := [.null, .int 0]) (C := RX8) (T := TX8) (N := 2) hx hb hts in_7 tyX8 tyX8_ok hown (hts (.classLink RX2 30 RX8) (zt_t2 12 rfl rfl)) (hts (.instantiable RX8 2) (zt_t1 35 rfl rfl)) (hts (.initialized RX8) (zt_t1 3 rfl rfl)) hK hP hD hS hA rfl (fun j hj => by rcases (show j = 0 ∨ j = 1 by omega) with rfl | rfl <;> rfl) (Nat.le_of_ble_eq_true rfl) (Nat.le_of_ble_eq_true rfl) dX2_init_105 (fun q_50 H hP hD hS => ?_)
                      have hP : va_P D vwCl (([(h0, .inr (2, [.ref q_1, .ref q_2, .ref q_3, .ref q_4, .ref q_5, .ref q_6, .ref q_7, .null, .null, .int 0, .int 0, .int 0, .int 0, .int 0])), (q_5, .inl (cA_5, 4, .inr (.inr (.inr (.inr f_22))))), (q_6, .inl (cA_6, 5, .inr (.inr (.inr (.inr f_45))))), (q_7, .inl (cA_7, 5, .inr (.inr (.inr (.inr f_47)))))] ++ zW K V) ++ [(q_50, .inr (7, [.null, .int 0]))]) H := hP
                      have hD : va_D A (([(h0, .inr (2, [.ref q_1, .ref q_2, .ref q_3, .ref q_4, .ref q_5, .ref q_6, .ref q_7, .null, .null, .int 0, .int 0, .int 0, .int 0, .int 0])), (q_5, .inl (cA_5, 4, .inr (.inr (.inr (.inr f_22))))), (q_6, .inl (cA_6, 5, .inr (.inr (.inr (.inr f_45))))), (q_7, .inl (cA_7, 5, .inr (.inr (.inr (.inr f_47)))))] ++ zW K V) ++ [(q_50, .inr (7, [.null, .int 0]))]) := hD
                      refine W.widen (k := 34) (n := 41987) (by omega) (by omega) ?_
                      refine lv_dup hx hb dX2_init_108 rfl ?_
                      refine lv_iconst (v := 4) hx hb dX2_init_109 (by decide) ?_
                      refine ccall (As := [.int 4]) (rest := [.ref q_50, .int 4, .ref q_6]) (k := 7) (X := [(h0, .inr (2, [.ref q_1, .ref q_2, .ref q_3, .ref q_4, .ref q_5, .ref q_6, .ref q_7, .null, .null, .int 0, .int 0, .int 0, .int 0, .int 0])), (q_5, .inl (cA_5, 4, .inr (.inr (.inr (.inr f_22))))), (q_6, .inl (cA_6, 5, .inr (.inr (.inr (.inr f_45))))), (q_7, .inl (cA_7, 5, .inr (.inr (.inr (.inr f_47)))))]) C (c_Row_init l D q_50 H.size 4 4 (by decide +kernel) (by decide +kernel) (by decide +kernel) (by decide +kernel)) (by decide) mc_X8_init (zt_t2 13 rfl rfl) ⟨Nat.le_of_ble_eq_true rfl, Nat.le_of_ble_eq_true rfl⟩ ⟨Nat.le_of_ble_eq_true rfl, Nat.le_of_ble_eq_true rfl⟩ hl.1 (Nat.le_of_ble_eq_true rfl) dX2_init_110 hC hP hD hS hA hAr hK hE (fun K V H locs hC hP hD hS hAr hle hq => ?_)
                      have hz := hz.add hle hq
                      have hr_q_5 := hr_q_5.le hle
                      have hr_q_6 := hr_q_6.le hle
                      have hr_q_7 := hr_q_7.le hle
                      clear hle hq
                      refine W.widen (k := 35) (n := 41991) (by omega) (by omega) ?_
                      have hv := hz.get 0 rfl
                      obtain ⟨i_51, hi⟩ := cat (X := [(h0, .inr (2, [.ref q_1, .ref q_2, .ref q_3, .ref q_4, .ref q_5, .ref q_6, .ref q_7, .null, .null, .int 0, .int 0, .int 0, .int 0, .int 0])), (q_5, .inl (cA_5, 4, .inr (.inr (.inr (.inr f_22))))), (q_6, .inl (cA_6, 5, .inr (.inr (.inr (.inr f_45))))), (q_7, .inl (cA_7, 5, .inr (.inr (.inr (.inr f_47)))))]) (V := V) hv
                      rw [zF_7 hv.2.1] at hi
                      refine va_astq hx hb hK hP hD hS 2 1 i_51 7 rfl rfl hi rfl (by unfold vp_in; decide +kernel) dX2_init_113 (fun H locs hP hD hS => ?_)
                      have hP : va_P D vwCl ([(h0, .inr (2, [.ref q_1, .ref q_2, .ref q_3, .ref q_4, .ref q_5, .ref q_6, .ref q_7, .null, .null, .int 0, .int 0, .int 0, .int 0, .int 0])), (q_5, .inl (cA_5, 4, .inr (.inr (.inr (.inr f_22))))), (q_6, .inl (cA_6, 5, .inr (.inr (.inr (.inr (va_up f_45 4 (some q_50))))))), (q_7, .inl (cA_7, 5, .inr (.inr (.inr (.inr f_47)))))] ++ zW K V) H := hP
                      have hD : va_D A ([(h0, .inr (2, [.ref q_1, .ref q_2, .ref q_3, .ref q_4, .ref q_5, .ref q_6, .ref q_7, .null, .null, .int 0, .int 0, .int 0, .int 0, .int 0])), (q_5, .inl (cA_5, 4, .inr (.inr (.inr (.inr f_22))))), (q_6, .inl (cA_6, 5, .inr (.inr (.inr (.inr (va_up f_45 4 (some q_50))))))), (q_7, .inl (cA_7, 5, .inr (.inr (.inr (.inr f_47)))))] ++ zW K V) := hD
                      have hr_q_6 := hr_q_6.push hv
                      generalize va_up f_45 4 (some q_50) = f_51 at hP hD hr_q_6
                      clear hv hi
                      have hz : zats K [(q_4, 20, 60), (q_3, 20, 20736), (q_2, 20, 20736), (q_1, 5, 0)] := fun q h => hz q (List.mem_cons_of_mem _ h)
                      refine lv_aload_n hx hb dX2_init_114 rfl (lv_at hl 1 rfl) ?_
                      refine va_get (D := D) (ci := 2) (v := .ref q_7) (C := RX2) (T := TX2) (N := 14) hx hb hts in_2 hown hK hP 0 rfl rfl 6 (by decide) (hts (.fieldLink RX2 39 "CardTables$Ends" "layers" "[LCardTables$Row;") (zt_t2 20 rfl rfl)) (fun _ h9 => h9) rfl dX2_init_115 ?_
                      refine lv_iload_n hx hb dX2_init_118 rfl (lv_at hl 0 rfl) ?_
                      refine va_new (ci := 7) (fs := [.null, .int 0]) (C := RX8) (T := TX8) (N := 2) hx hb hts in_7 tyX8 tyX8_ok hown (hts (.classLink RX2 30 RX8) (zt_t2 12 rfl rfl)) (hts (.instantiable RX8 2) (zt_t1 35 rfl rfl)) (hts (.initialized RX8) (zt_t1 3 rfl rfl)) hK hP hD hS hA rfl (fun j hj => by rcases (show j = 0 ∨ j = 1 by omega) with rfl | rfl <;> rfl) (Nat.le_of_ble_eq_true rfl) (Nat.le_of_ble_eq_true rfl) dX2_init_119 (fun q_52 H hP hD hS => ?_)
                      have hP : va_P D vwCl (([(h0, .inr (2, [.ref q_1, .ref q_2, .ref q_3, .ref q_4, .ref q_5, .ref q_6, .ref q_7, .null, .null, .int 0, .int 0, .int 0, .int 0, .int 0])), (q_5, .inl (cA_5, 4, .inr (.inr (.inr (.inr f_22))))), (q_6, .inl (cA_6, 5, .inr (.inr (.inr (.inr f_51))))), (q_7, .inl (cA_7, 5, .inr (.inr (.inr (.inr f_47)))))] ++ zW K V) ++ [(q_52, .inr (7, [.null, .int 0]))]) H := hP
                      have hD : va_D A (([(h0, .inr (2, [.ref q_1, .ref q_2, .ref q_3, .ref q_4, .ref q_5, .ref q_6, .ref q_7, .null, .null, .int 0, .int 0, .int 0, .int 0, .int 0])), (q_5, .inl (cA_5, 4, .inr (.inr (.inr (.inr f_22))))), (q_6, .inl (cA_6, 5, .inr (.inr (.inr (.inr f_51))))), (q_7, .inl (cA_7, 5, .inr (.inr (.inr (.inr f_47)))))] ++ zW K V) ++ [(q_52, .inr (7, [.null, .int 0]))]) := hD
                      refine W.widen (k := 36) (n := 41993) (by omega) (by omega) ?_
                      refine lv_dup hx hb dX2_init_122 rfl ?_
                      refine lv_iconst (v := 4) hx hb dX2_init_123 (by decide) ?_
                      refine ccall (As := [.int 4]) (rest := [.ref q_52, .int 4, .ref q_7]) (k := 7) (X := [(h0, .inr (2, [.ref q_1, .ref q_2, .ref q_3, .ref q_4, .ref q_5, .ref q_6, .ref q_7, .null, .null, .int 0, .int 0, .int 0, .int 0, .int 0])), (q_5, .inl (cA_5, 4, .inr (.inr (.inr (.inr f_22))))), (q_6, .inl (cA_6, 5, .inr (.inr (.inr (.inr f_51))))), (q_7, .inl (cA_7, 5, .inr (.inr (.inr (.inr f_47)))))]) C (c_Row_init l D q_52 H.size 4 4 (by decide +kernel) (by decide +kernel) (by decide +kernel) (by decide +kernel)) (by decide) mc_X8_init (zt_t2 13 rfl rfl) ⟨Nat.le_of_ble_eq_true rfl, Nat.le_of_ble_eq_true rfl⟩ ⟨Nat.le_of_ble_eq_true rfl, Nat.le_of_ble_eq_true rfl⟩ hl.1 (Nat.le_of_ble_eq_true rfl) dX2_init_124 hC hP hD hS hA hAr hK hE (fun K V H locs hC hP hD hS hAr hle hq => ?_)
                      have hz := hz.add hle hq
                      have hr_q_5 := hr_q_5.le hle
                      have hr_q_6 := hr_q_6.le hle
                      have hr_q_7 := hr_q_7.le hle
                      clear hle hq
                      refine W.widen (k := 37) (n := 41997) (by omega) (by omega) ?_
                      have hv := hz.get 0 rfl
                      obtain ⟨i_53, hi⟩ := cat (X := [(h0, .inr (2, [.ref q_1, .ref q_2, .ref q_3, .ref q_4, .ref q_5, .ref q_6, .ref q_7, .null, .null, .int 0, .int 0, .int 0, .int 0, .int 0])), (q_5, .inl (cA_5, 4, .inr (.inr (.inr (.inr f_22))))), (q_6, .inl (cA_6, 5, .inr (.inr (.inr (.inr f_51))))), (q_7, .inl (cA_7, 5, .inr (.inr (.inr (.inr f_47)))))]) (V := V) hv
                      rw [zF_7 hv.2.1] at hi
                      refine va_astq hx hb hK hP hD hS 3 2 i_53 7 rfl rfl hi rfl (by unfold vp_in; decide +kernel) dX2_init_127 (fun H locs hP hD hS => ?_)
                      have hP : va_P D vwCl ([(h0, .inr (2, [.ref q_1, .ref q_2, .ref q_3, .ref q_4, .ref q_5, .ref q_6, .ref q_7, .null, .null, .int 0, .int 0, .int 0, .int 0, .int 0])), (q_5, .inl (cA_5, 4, .inr (.inr (.inr (.inr f_22))))), (q_6, .inl (cA_6, 5, .inr (.inr (.inr (.inr f_51))))), (q_7, .inl (cA_7, 5, .inr (.inr (.inr (.inr (va_up f_47 4 (some q_52)))))))] ++ zW K V) H := hP
                      have hD : va_D A ([(h0, .inr (2, [.ref q_1, .ref q_2, .ref q_3, .ref q_4, .ref q_5, .ref q_6, .ref q_7, .null, .null, .int 0, .int 0, .int 0, .int 0, .int 0])), (q_5, .inl (cA_5, 4, .inr (.inr (.inr (.inr f_22))))), (q_6, .inl (cA_6, 5, .inr (.inr (.inr (.inr f_51))))), (q_7, .inl (cA_7, 5, .inr (.inr (.inr (.inr (va_up f_47 4 (some q_52)))))))] ++ zW K V) := hD
                      have hr_q_7 := hr_q_7.push hv
                      generalize va_up f_47 4 (some q_52) = f_53 at hP hD hr_q_7
                      clear hv hi
                      have hz : zats K [(q_4, 20, 60), (q_3, 20, 20736), (q_2, 20, 20736), (q_1, 5, 0)] := fun q h => hz q (List.mem_cons_of_mem _ h)
                      refine lv_iinc (v := 5) (lv' := [(1, .int 5), (0, .ref h0)]) hx hb dX2_init_128 hl (k := 0) rfl (by decide) (by decide) rfl (fun ls hl => ?_)
                      refine lv_goto (tgt := 95) hx hb dX2_init_131 (by decide) ?_
                      refine lv_iload_n hx hb dX2_init_95 rfl (lv_at hl 0 rfl) ?_
                      refine lv_iconst (v := 4) hx hb dX2_init_96 (by decide) ?_
                      refine lv_icmp_gt (tgt := 134) hx hb dX2_init_97 (by decide) (fun c_55 => ?_) (fun c_55 => ?_)
                      · skip
                        obtain ⟨K, V, hC, hP, hD, hAr, hle, hq⟩ := cpush23 (X := [(h0, .inr (2, [.ref q_1, .ref q_2, .ref q_3, .ref q_4, .ref q_5, .ref q_6, .ref q_7, .null, .null, .int 0, .int 0, .int 0, .int 0, .int 0])), (q_5, .inl (cA_5, 4, .inr (.inr (.inr (.inr f_22))))), (q_6, .inl (cA_6, 5, .inr (.inr (.inr (.inr f_51)))))]) hC hP hD hr_q_7 (by decide) hAr (hK.2 2 _ rfl)
                        have hz := hz.add hle hq
                        have hr_q_5 := hr_q_5.le hle
                        have hr_q_6 := hr_q_6.le hle
                        clear hle hq
                        obtain ⟨K, V, hC, hP, hD, hAr, hle, hq⟩ := cpush23 (X := [(h0, .inr (2, [.ref q_1, .ref q_2, .ref q_3, .ref q_4, .ref q_5, .ref q_6, .ref q_7, .null, .null, .int 0, .int 0, .int 0, .int 0, .int 0])), (q_5, .inl (cA_5, 4, .inr (.inr (.inr (.inr f_22)))))]) hC hP hD hr_q_6 (by decide) hAr (hK.2 1 _ rfl)
                        have hz := hz.add hle hq
                        have hr_q_5 := hr_q_5.le hle
                        clear hle hq
                        obtain ⟨K, V, hC, hP, hD, hAr, hle, hq⟩ := cpush23 (X := [(h0, .inr (2, [.ref q_1, .ref q_2, .ref q_3, .ref q_4, .ref q_5, .ref q_6, .ref q_7, .null, .null, .int 0, .int 0, .int 0, .int 0, .int 0]))]) hC hP hD hr_q_5 (by decide) hAr (hK.2 0 _ rfl)
                        have hz := hz.add hle hq
                        clear hle hq
                        have hR : ∀ j k' n', zX 2 j = some (k', n') → zat K ((fun j => ([q_1, q_2, q_3, q_4, q_5, q_6, q_7, 0, 0, 0, 0, 0, 0, 0] : List Nat).getD j 0) j) k' n' := by
                          refine zXf (P := fun j k' n' => zat K ((fun j => ([q_1, q_2, q_3, q_4, q_5, q_6, q_7, 0, 0, 0, 0, 0, 0, 0] : List Nat).getD j 0) j) k' n') 2 [(2, 0, 5, 0), (2, 1, 20, 20736), (2, 2, 20, 20736), (2, 3, 20, 60), (2, 4, 23, 4), (2, 5, 23, 5), (2, 6, 23, 5)] (by decide) (fun q hq => ?_)
                          simp only [List.mem_cons, List.not_mem_nil, or_false] at hq
                          rcases hq with rfl | rfl | rfl | rfl | rfl | rfl | rfl
                          · exact hz.get 6 rfl
                          · exact hz.get 5 rfl
                          · exact hz.get 4 rfl
                          · exact hz.get 3 rfl
                          · exact hz.get 0 rfl
                          · exact hz.get 1 rfl
                          · exact hz.get 2 rfl
                        obtain ⟨K, V, ⟨hC, hP, hD, hAr, hle, hq⟩, hzr⟩ := cpushO (X := []) (k := 2) (by decide) hC hP hD (fun j => ([q_1, q_2, q_3, q_4, q_5, q_6, q_7, 0, 0, 0, 0, 0, 0, 0] : List Nat).getD j 0) (fun j => ([0, 0, 0, 0, 0, 0, 0, 0, 0, 0, 0, 0, 0, 0] : List Int32).getD j 0) (fun K' V' h1 h2 h3 h4 => by rw [zF_2 h1, h2, h3, h4] <;> rfl) hR zi15 zi4 hAr
                        refine W.widen (k := 37) (n := 41997) (by omega) (by omega) ?_
                        exact cend hx hb hr hlocks hAe hC ⟨fun _ => rfl, fun h => by cases h⟩ hP hD hS hAr hq dX2_init_134
                      · exact absurd c_55 (by decide +kernel)
          · exact absurd c_24 (by decide +kernel)
