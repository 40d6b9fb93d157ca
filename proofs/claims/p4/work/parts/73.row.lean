theorem mc_X8_init : zmC yX8_init cX8_init 2 1 := ⟨⟨zt_t1 3 rfl rfl, zt_t1 38 rfl rfl, by decide, by decide, by decide +kernel⟩, zt_t1 37 rfl rfl, rfl⟩
set_option maxHeartbeats 4000000 in
set_option maxRecDepth 100000 in
theorem c_Row_init (l : Launch) (D : va_G) (h0 sz : Nat) (n : Int32) (n0 : Nat) (hmx : (if (0 : Int32) < n then n else 0) = n) (hn : ¬ n < 0) (hN : n.toNatClampNeg = n0) (hB4 : n0 * 4 ≤ 536870912) : Met l yX8_init (zc yX8_init cX8_init 2 none) (rmc 1 1 n0) (va_Pc [.ref h0, .int n] (cP D h0 sz (.inr (7, [.null, .int 0])))) (cQ D 7 h0 sz (.inr (7, [.null, .int 0]))) 1 n0 (va_A [(h0, .inr (7, [.null, .int 0]))] sz) := by
  refine cin (by decide) (Nat.le_of_ble_eq_true rfl) ?_
  intro p e s m args below meth c ls A hsz hAe C hr hlocks hnm hK hE hP hD hA hS hl
  subst hsz
  have C : CallFix p m c cX8_init 2 s args zw RX8 := C
  obtain ⟨hx, hb, hml, hown, hts⟩ := id C
  have hin : meth.name = "<init>" := hnm
  obtain ⟨K, V, hC, hP, hD, hAr⟩ : ∃ (K : zK) (V : zV), zC K V ∧ va_P D vwCl ([(h0, .inr (7, [.null, .int 0]))] ++ zW K V) s.heap ∧ va_D A ([(h0, .inr (7, [.null, .int 0]))] ++ zW K V) ∧ zAr K s := ⟨kE, vE, kE_C, hP, hD, kE_Ar s⟩
  have hz : zats K [] := zats.nil
  have hl : lv_has ls 2 [(0, .ref h0), (1, .int n)] := hl
  refine lv_aload_n hx hb dX8_init_0 rfl (lv_at hl 0 rfl) ?_
  refine W.objInit hx hb hown (hts (.methodLink RX8 3 objectInit) (zt_t1 39 rfl rfl)) (hts (.instanceMethod objectInit) (zt_t1 23 rfl rfl)) (hts (.code objectInit ⟨#[0xb1]⟩ 1 none) (zt_t1 24 rfl rfl)) rfl (by rw [hml]; exact hl.1) rfl dX8_init_1 (Nat.le_of_ble_eq_true rfl) (Nat.le_of_ble_eq_true rfl) ?_
  refine W.eq (g2 := F0 m 4 ls []) rfl ?_
  refine lv_aload_n hx hb dX8_init_4 rfl (lv_at hl 0 rfl) ?_
  refine lv_iconst (v := 0) hx hb dX8_init_5 (by decide) ?_
  refine lv_iload_n hx hb dX8_init_6 rfl (lv_at hl 1 rfl) ?_
  refine va_mmax hx hb (hml.trans hl.1.symm) hown (hts (.methodLink RX8 9 Lib.Math.max.name) (zt_t1 40 rfl rfl)) (hts (.static Lib.Math.max.name) (zt_t1 41 rfl rfl)) (hts (.initialized "java/lang/Math") (zt_t1 4 rfl rfl)) (hts (.code Lib.Math.max.name Lib.Math.max.code 2 (some .int)) (zt_t1 42 rfl rfl)) (Nat.le_of_ble_eq_true rfl) (Nat.le_of_ble_eq_true rfl) (Nat.zero_le _) (Nat.zero_le _) dX8_init_7 ?_
  refine lv_topi (fun x_1 ex_1 => ?_)
  obtain rfl : n = x_1 := (ex_1.trans hmx).symm
  refine va_newa (atype := .int) (a0 := (n0, .inl (fun _ => 0))) (N' := n0) (ty := .int) hx hb (hts (.arrayClass .int) (zt_t1 58 rfl rfl)) rfl hK hP hD hS hA (fun _ => rfl) hn hN hB4 (Nat.le_of_ble_eq_true rfl) (Nat.le_of_eq (Nat.zero_add n0)) dX8_init_10 (fun q cA H hK hP hD hS => ?_)
  have hA1 := hK.2 0 _ rfl
  have hK := hK.sub (tys' := []) [] rfl
  obtain ⟨K, V, hC, hP, hD, hAr, hle, hq⟩ := cnewE (X := [(h0, .inr (7, [.null, .int 0]))]) (k := 20) hC rfl (by omega) (fun h => by cases h) rfl hP hD hAr hA1
  have hz := hz.add hle hq
  clear hle hq
  refine W.widen (k := 1) (n := n0) (by omega) (by omega) ?_
  refine va_putF (D := D) (ci := 7) (v := .ref q) (ty := .array .int) (C := RX8) (T := TX8) (N := 2) hx hb hts in_7 tyX8 tyX8_ok nmX8 hown hK hP hD hS 0 rfl rfl 0 (by decide) (hts (.fieldLink RX8 15 "CardTables$Row" "items" "[I") (zt_t1 43 rfl rfl)) (fun _ h9 => h9) rfl hin rfl (by decide +kernel) rfl rfl (Nat.le_of_ble_eq_true rfl) dX8_init_12 (fun H locs hP hD hS => ?_)
  have hP : va_P D vwCl ([(h0, .inr (7, [.ref q, .int 0]))] ++ zW K V) H := hP
  have hD : va_D A ([(h0, .inr (7, [.ref q, .int 0]))] ++ zW K V) := hD
  have hR : ∀ j k' n', zX 7 j = some (k', n') → zat K ((fun j => ([q, 0] : List Nat).getD j 0) j) k' n' := by
    refine zXf (P := fun j k' n' => zat K ((fun j => ([q, 0] : List Nat).getD j 0) j) k' n') 7 [(7, 0, 20, 0)] (by decide) (fun q hq => ?_)
    simp only [List.mem_cons, List.not_mem_nil, or_false] at hq
    rcases hq with rfl
    · exact ⟨(hz.get 0 rfl).1, (hz.get 0 rfl).2.1, fun h => absurd rfl h⟩
  obtain ⟨K, V, ⟨hC, hP, hD, hAr, hle, hq⟩, hzr⟩ := cpushO (X := []) (k := 7) (by decide) hC hP hD (fun j => ([q, 0] : List Nat).getD j 0) (fun j => ([0, 0] : List Int32).getD j 0) (fun K' V' h1 h2 h3 h4 => by rw [zF_7 h1, h2, h3] <;> rfl) hR zi15 zi4 hAr
  refine W.widen (k := 1) (n := n0) (by omega) (by omega) ?_
  exact cend hx hb hr hlocks hAe hC ⟨fun _ => rfl, fun h => by cases h⟩ hP hD hS hAr hq dX8_init_15
theorem mc_X6_init : zmC yX6_init cX6_init 2 1 := ⟨⟨zt_t1 6 rfl rfl, zt_t1 217 rfl rfl, by decide, by decide, by decide +kernel⟩, zt_t1 216 rfl rfl, rfl⟩
set_option maxHeartbeats 4000000 in
set_option maxRecDepth 100000 in
theorem c_Notes_init (l : Launch) (D : va_G) (h0 sz : Nat) (b : Int32) (hb1 : narrow .boolean (.int b) = .int b) (hb2 : fits .boolean (.int b) = true) : Met l yX6_init (zc yX6_init cX6_init 2 none) (rmc 1 2 360) (va_Pc [.ref h0, .int b] (cP D h0 sz (.inr (5, [.int 0, .null, .null, .int 0, .int 0, .int 0, .int 0])))) (cQ D 5 h0 sz (.inr (5, [.int 0, .null, .null, .int 0, .int 0, .int 0, .int 0]))) 2 360 (va_A [(h0, .inr (5, [.int 0, .null, .null, .int 0, .int 0, .int 0, .int 0]))] sz) := by
  refine cin (by decide) (Nat.le_of_ble_eq_true rfl) ?_
  intro p e s m args below meth c ls A hsz hAe C hr hlocks hnm hK hE hP hD hA hS hl
  subst hsz
  have C : CallFix p m c cX6_init 2 s args zw RX6 := C
  obtain ⟨hx, hb, hml, hown, hts⟩ := id C
  have hin : meth.name = "<init>" := hnm
  obtain ⟨K, V, hC, hP, hD, hAr⟩ : ∃ (K : zK) (V : zV), zC K V ∧ va_P D vwCl ([(h0, .inr (5, [.int 0, .null, .null, .int 0, .int 0, .int 0, .int 0]))] ++ zW K V) s.heap ∧ va_D A ([(h0, .inr (5, [.int 0, .null, .null, .int 0, .int 0, .int 0, .int 0]))] ++ zW K V) ∧ zAr K s := ⟨kE, vE, kE_C, hP, hD, kE_Ar s⟩
  have hz : zats K [] := zats.nil
  have hl : lv_has ls 2 [(0, .ref h0), (1, .int b)] := hl
  refine lv_aload_n hx hb dX6_init_0 rfl (lv_at hl 0 rfl) ?_
  refine W.objInit hx hb hown (hts (.methodLink RX6 3 objectInit) (zt_t1 218 rfl rfl)) (hts (.instanceMethod objectInit) (zt_t1 23 rfl rfl)) (hts (.code objectInit ⟨#[0xb1]⟩ 1 none) (zt_t1 24 rfl rfl)) rfl (by rw [hml]; exact hl.1) rfl dX6_init_1 (Nat.le_of_ble_eq_true rfl) (Nat.le_of_ble_eq_true rfl) ?_
  refine W.eq (g2 := F0 m 4 ls []) rfl ?_
  refine lv_aload_n hx hb dX6_init_4 rfl (lv_at hl 0 rfl) ?_
  refine lv_bipush (v := 60) hx hb dX6_init_5 (by decide) ?_
  refine va_newa (atype := .int) (a0 := (60, .inl (fun _ => 0))) (N' := 60) (ty := .int) hx hb (hts (.arrayClass .int) (zt_t1 58 rfl rfl)) rfl hK hP hD hS hA (fun _ => rfl) (by decide +kernel) (by decide +kernel) (by decide +kernel) (Nat.le_of_ble_eq_true rfl) (Nat.le_of_ble_eq_true rfl) dX6_init_7 (fun q_1 cA_1 H hK hP hD hS => ?_)
  have hA1 := hK.2 0 _ rfl
  have hK := hK.sub (tys' := []) [] rfl
  obtain ⟨K, V, hC, hP, hD, hAr, hle, hq⟩ := cnewE (X := [(h0, .inr (5, [.int 0, .null, .null, .int 0, .int 0, .int 0, .int 0]))]) (k := 20) hC rfl (by decide) (fun h => by cases h) rfl hP hD hAr hA1
  have hz := hz.add hle hq
  clear hle hq
  refine W.widen (k := 1) (n := 60) (by omega) (by omega) ?_
  refine va_putF (D := D) (ci := 5) (v := .ref q_1) (ty := .array .int) (C := RX6) (T := TX6) (N := 7) hx hb hts in_5 tyX6 tyX6_ok nmX6 hown hK hP hD hS 0 rfl rfl 1 (by decide) (hts (.fieldLink RX6 9 "CardTables$Notes" "bodies" "[I") (zt_t1 220 rfl rfl)) (fun _ h9 => h9) rfl hin rfl (by decide +kernel) rfl rfl (Nat.le_of_ble_eq_true rfl) dX6_init_9 (fun H locs hP hD hS => ?_)
  have hP : va_P D vwCl ([(h0, .inr (5, [.int 0, .ref q_1, .null, .int 0, .int 0, .int 0, .int 0]))] ++ zW K V) H := hP
  have hD : va_D A ([(h0, .inr (5, [.int 0, .ref q_1, .null, .int 0, .int 0, .int 0, .int 0]))] ++ zW K V) := hD
  refine lv_aload_n hx hb dX6_init_12 rfl (lv_at hl 0 rfl) ?_
  refine lv_sipush (v := 300) hx hb dX6_init_13 (by decide) ?_
  refine va_newa (atype := .int) (a0 := (300, .inl (fun _ => 0))) (N' := 300) (ty := .int) hx hb (hts (.arrayClass .int) (zt_t1 58 rfl rfl)) rfl hK hP hD hS hA (fun _ => rfl) (by decide +kernel) (by decide +kernel) (by decide +kernel) (Nat.le_of_ble_eq_true rfl) (Nat.le_of_ble_eq_true rfl) dX6_init_16 (fun q_2 cA_2 H hK hP hD hS => ?_)
  have hA1 := hK.2 0 _ rfl
  have hK := hK.sub (tys' := []) [] rfl
  obtain ⟨K, V, hC, hP, hD, hAr, hle, hq⟩ := cnewE (X := [(h0, .inr (5, [.int 0, .ref q_1, .null, .int 0, .int 0, .int 0, .int 0]))]) (k := 20) hC rfl (by decide) (fun h => by cases h) rfl hP hD hAr hA1
  have hz := hz.add hle hq
  clear hle hq
  refine W.widen (k := 2) (n := 360) (by omega) (by omega) ?_
  refine va_putF (D := D) (ci := 5) (v := .ref q_2) (ty := .array .int) (C := RX6) (T := TX6) (N := 7) hx hb hts in_5 tyX6 tyX6_ok nmX6 hown hK hP hD hS 0 rfl rfl 2 (by decide) (hts (.fieldLink RX6 15 "CardTables$Notes" "findings" "[I") (zt_t1 221 rfl rfl)) (fun _ h9 => h9) rfl hin rfl (by decide +kernel) rfl rfl (Nat.le_of_ble_eq_true rfl) dX6_init_18 (fun H locs hP hD hS => ?_)
  have hP : va_P D vwCl ([(h0, .inr (5, [.int 0, .ref q_1, .ref q_2, .int 0, .int 0, .int 0, .int 0]))] ++ zW K V) H := hP
  have hD : va_D A ([(h0, .inr (5, [.int 0, .ref q_1, .ref q_2, .int 0, .int 0, .int 0, .int 0]))] ++ zW K V) := hD
  refine lv_aload_n hx hb dX6_init_21 rfl (lv_at hl 0 rfl) ?_
  refine lv_iload_n hx hb dX6_init_22 rfl (lv_at hl 1 rfl) ?_
  refine va_putF (D := D) (ci := 5) (v := .int b) (ty := .boolean) (C := RX6) (T := TX6) (N := 7) hx hb hts in_5 tyX6 tyX6_ok nmX6 hown hK hP hD hS 0 rfl rfl 0 (by decide) (hts (.fieldLink RX6 18 "CardTables$Notes" "silent" "Z") (zt_t1 219 rfl rfl)) (fun _ h9 => h9) rfl hin rfl (by decide +kernel) hb1 hb2 (Nat.le_of_ble_eq_true rfl) dX6_init_23 (fun H locs hP hD hS => ?_)
  have hP : va_P D vwCl ([(h0, .inr (5, [.int b, .ref q_1, .ref q_2, .int 0, .int 0, .int 0, .int 0]))] ++ zW K V) H := hP
  have hD : va_D A ([(h0, .inr (5, [.int b, .ref q_1, .ref q_2, .int 0, .int 0, .int 0, .int 0]))] ++ zW K V) := hD
  have hR : ∀ j k' n', zX 5 j = some (k', n') → zat K ((fun j => ([0, q_1, q_2, 0, 0, 0, 0] : List Nat).getD j 0) j) k' n' := by
    refine zXf (P := fun j k' n' => zat K ((fun j => ([0, q_1, q_2, 0, 0, 0, 0] : List Nat).getD j 0) j) k' n') 5 [(5, 1, 20, 60), (5, 2, 20, 300)] (by decide) (fun q hq => ?_)
    simp only [List.mem_cons, List.not_mem_nil, or_false] at hq
    rcases hq with rfl | rfl
    · exact hz.get 1 rfl
    · exact hz.get 0 rfl
  obtain ⟨K, V, ⟨hC, hP, hD, hAr, hle, hq⟩, hzr⟩ := cpushO (X := []) (k := 5) (by decide) hC hP hD (fun j => ([0, q_1, q_2, 0, 0, 0, 0] : List Nat).getD j 0) (fun j => ([b, 0, 0, 0, 0, 0, 0] : List Int32).getD j 0) (fun K' V' h1 h2 h3 h4 => by rw [zF_5 h1, h2, h3] <;> rfl) hR zi15 zi4 hAr
  refine W.widen (k := 2) (n := 360) (by omega) (by omega) ?_
  exact cend hx hb hr hlocks hAe hC ⟨fun _ => rfl, fun h => by cases h⟩ hP hD hS hAr hq dX6_init_26
