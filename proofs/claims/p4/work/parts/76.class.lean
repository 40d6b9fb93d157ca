theorem mc_X11_init : zmC yX11_init cX11_init 2 0 := ⟨⟨zt_t1 1 rfl rfl, zt_t1 21 rfl rfl, by decide, by decide, by decide +kernel⟩, zt_t1 20 rfl rfl, rfl⟩
set_option maxHeartbeats 4000000 in
set_option maxRecDepth 100000 in
theorem c_X11_init (l : Launch) (D : va_G) (h0 sz : Nat) : Met l yX11_init (zc yX11_init cX11_init 2 none) (rmc 4 1122 63626) (va_Pc [.ref h0] (cP D h0 sz (.inr (10, [.null, .null, .null, .null, .null, .null, .null, .null, .null])))) (cQ D 10 h0 sz (.inr (10, [.null, .null, .null, .null, .null, .null, .null, .null, .null]))) 1122 63626 (va_A [(h0, .inr (10, [.null, .null, .null, .null, .null, .null, .null, .null, .null]))] sz) := by
  refine cin (by decide) (Nat.le_of_ble_eq_true rfl) ?_
  intro p e s m args below meth c ls A hsz hAe C hr hlocks hnm hK hE hP hD hA hS hl
  subst hsz
  have C : CallFix p m c cX11_init 2 s args zw RX11 := C
  obtain ⟨hx, hb, hml, hown, hts⟩ := id C
  have hin : meth.name = "<init>" := hnm
  obtain ⟨K, V, hC, hP, hD, hAr⟩ : ∃ (K : zK) (V : zV), zC K V ∧ va_P D vwCl ([(h0, .inr (10, [.null, .null, .null, .null, .null, .null, .null, .null, .null]))] ++ zW K V) s.heap ∧ va_D A ([(h0, .inr (10, [.null, .null, .null, .null, .null, .null, .null, .null, .null]))] ++ zW K V) ∧ zAr K s := ⟨kE, vE, kE_C, hP, hD, kE_Ar s⟩
  have hz : zats K [] := zats.nil
  have hl : lv_has ls 2 [(0, .ref h0)] := hl
  refine lv_aload_n hx hb dX11_init_0 rfl (lv_at hl 0 rfl) ?_
  refine W.objInit hx hb hown (hts (.methodLink RX11 1 objectInit) (zt_t1 22 rfl rfl)) (hts (.instanceMethod objectInit) (zt_t1 23 rfl rfl)) (hts (.code objectInit ⟨#[0xb1]⟩ 1 none) (zt_t1 24 rfl rfl)) rfl (by rw [hml]; exact hl.1) rfl dX11_init_1 (Nat.le_of_ble_eq_true rfl) (Nat.le_of_ble_eq_true rfl) ?_
  refine W.eq (g2 := F0 m 4 ls []) rfl ?_
  refine lv_aload_n hx hb dX11_init_4 rfl (lv_at hl 0 rfl) ?_
  refine lv_bipush (v := 6) hx hb dX11_init_5 (by decide) ?_
  refine va_newq (C := RX4) (N' := 6) hx hb hown (hts (.classLink RX11 9 RX4) (zt_t1 25 rfl rfl)) hE.1 hK hP hD hS hA (by decide +kernel) (by decide +kernel) (by decide +kernel) (Nat.le_of_ble_eq_true rfl) (Nat.le_of_ble_eq_true rfl) dX11_init_7 (fun q_1 cA_1 H hK hP hD hS => ?_)
  have hP := hP.swap (a := [(h0, .inr (10, [.null, .null, .null, .null, .null, .null, .null, .null, .null]))])
  have hD := hD.swap (a := [(h0, .inr (10, [.null, .null, .null, .null, .null, .null, .null, .null, .null]))])
  have hP : va_P D vwCl ([(h0, .inr (10, [.null, .null, .null, .null, .null, .null, .null, .null, .null])), (q_1, .inl (cA_1, 6, .inr (.inr (.inr (.inr (fun _ => none))))))] ++ zW K V) H := hP
  have hD : va_D A ([(h0, .inr (10, [.null, .null, .null, .null, .null, .null, .null, .null, .null])), (q_1, .inl (cA_1, 6, .inr (.inr (.inr (.inr (fun _ => none))))))] ++ zW K V) := hD
  have hK : va_K D vwCl [(cA_1, .object RX4)] s := hK
  refine W.widen (k := 1) (n := 6) (by omega) (by omega) ?_
  refine va_putF (D := D) (ci := 10) (v := .ref q_1) (ty := .array (.object "CardTables$Game")) (C := RX11) (T := TX11) (N := 9) hx hb hts in_10 tyX11 tyX11_ok nmX11 hown hK hP hD hS 0 rfl rfl 0 (by decide) (hts (.fieldLink RX11 11 "CardTables" "games" "[LCardTables$Game;") (zt_t2 57 rfl rfl)) (fun _ h9 => h9) rfl hin rfl (by decide +kernel) rfl rfl (Nat.le_of_ble_eq_true rfl) dX11_init_10 (fun H locs hP hD hS => ?_)
  have hP : va_P D vwCl ([(h0, .inr (10, [.ref q_1, .null, .null, .null, .null, .null, .null, .null, .null])), (q_1, .inl (cA_1, 6, .inr (.inr (.inr (.inr (fun _ => none))))))] ++ zW K V) H := hP
  have hD : va_D A ([(h0, .inr (10, [.ref q_1, .null, .null, .null, .null, .null, .null, .null, .null])), (q_1, .inl (cA_1, 6, .inr (.inr (.inr (.inr (fun _ => none))))))] ++ zW K V) := hD
  refine lv_aload_n hx hb dX11_init_13 rfl (lv_at hl 0 rfl) ?_
  refine lv_iconst (v := 4) hx hb dX11_init_14 (by decide) ?_
  refine va_newq (C := RX9) (N' := 4) hx hb hown (hts (.classLink RX11 15 RX9) (zt_t1 27 rfl rfl)) hE.2.2.1 hK hP hD hS hA (by decide +kernel) (by decide +kernel) (by decide +kernel) (Nat.le_of_ble_eq_true rfl) (Nat.le_of_ble_eq_true rfl) dX11_init_15 (fun q_2 cA_2 H hK hP hD hS => ?_)
  have hP := hP.swap (a := [(h0, .inr (10, [.ref q_1, .null, .null, .null, .null, .null, .null, .null, .null])), (q_1, .inl (cA_1, 6, .inr (.inr (.inr (.inr (fun _ => none))))))])
  have hD := hD.swap (a := [(h0, .inr (10, [.ref q_1, .null, .null, .null, .null, .null, .null, .null, .null])), (q_1, .inl (cA_1, 6, .inr (.inr (.inr (.inr (fun _ => none))))))])
  have hr_q_2 : rfs K 8 (fun _ => none) 0 := rfs.nil
  have hP : va_P D vwCl ([(h0, .inr (10, [.ref q_1, .null, .null, .null, .null, .null, .null, .null, .null])), (q_1, .inl (cA_1, 6, .inr (.inr (.inr (.inr (fun _ => none)))))), (q_2, .inl (cA_2, 4, .inr (.inr (.inr (.inr (fun _ => none))))))] ++ zW K V) H := hP
  have hD : va_D A ([(h0, .inr (10, [.ref q_1, .null, .null, .null, .null, .null, .null, .null, .null])), (q_1, .inl (cA_1, 6, .inr (.inr (.inr (.inr (fun _ => none)))))), (q_2, .inl (cA_2, 4, .inr (.inr (.inr (.inr (fun _ => none))))))] ++ zW K V) := hD
  have hK : va_K D vwCl [(cA_1, .object RX4), (cA_2, .object RX9)] s := hK
  refine W.widen (k := 2) (n := 10) (by omega) (by omega) ?_
  refine va_putF (D := D) (ci := 10) (v := .ref q_2) (ty := .array (.object "CardTables$Table")) (C := RX11) (T := TX11) (N := 9) hx hb hts in_10 tyX11 tyX11_ok nmX11 hown hK hP hD hS 0 rfl rfl 1 (by decide) (hts (.fieldLink RX11 17 "CardTables" "tables" "[LCardTables$Table;") (zt_t2 58 rfl rfl)) (fun _ h9 => h9) rfl hin rfl (by decide +kernel) rfl rfl (Nat.le_of_ble_eq_true rfl) dX11_init_18 (fun H locs hP hD hS => ?_)
  have hP : va_P D vwCl ([(h0, .inr (10, [.ref q_1, .ref q_2, .null, .null, .null, .null, .null, .null, .null])), (q_1, .inl (cA_1, 6, .inr (.inr (.inr (.inr (fun _ => none)))))), (q_2, .inl (cA_2, 4, .inr (.inr (.inr (.inr (fun _ => none))))))] ++ zW K V) H := hP
  have hD : va_D A ([(h0, .inr (10, [.ref q_1, .ref q_2, .null, .null, .null, .null, .null, .null, .null])), (q_1, .inl (cA_1, 6, .inr (.inr (.inr (.inr (fun _ => none)))))), (q_2, .inl (cA_2, 4, .inr (.inr (.inr (.inr (fun _ => none))))))] ++ zW K V) := hD
  refine lv_aload_n hx hb dX11_init_21 rfl (lv_at hl 0 rfl) ?_
  refine lv_bipush (v := 32) hx hb dX11_init_22 (by decide) ?_
  refine va_newq (C := RX9) (N' := 32) hx hb hown (hts (.classLink RX11 15 RX9) (zt_t1 27 rfl rfl)) hE.2.2.1 hK hP hD hS hA (by decide +kernel) (by decide +kernel) (by decide +kernel) (Nat.le_of_ble_eq_true rfl) (Nat.le_of_ble_eq_true rfl) dX11_init_24 (fun q_3 cA_3 H hK hP hD hS => ?_)
  have hP := hP.swap (a := [(h0, .inr (10, [.ref q_1, .ref q_2, .null, .null, .null, .null, .null, .null, .null])), (q_1, .inl (cA_1, 6, .inr (.inr (.inr (.inr (fun _ => none)))))), (q_2, .inl (cA_2, 4, .inr (.inr (.inr (.inr (fun _ => none))))))])
  have hD := hD.swap (a := [(h0, .inr (10, [.ref q_1, .ref q_2, .null, .null, .null, .null, .null, .null, .null])), (q_1, .inl (cA_1, 6, .inr (.inr (.inr (.inr (fun _ => none)))))), (q_2, .inl (cA_2, 4, .inr (.inr (.inr (.inr (fun _ => none))))))])
  have hr_q_3 : rfs K 8 (fun _ => none) 0 := rfs.nil
  have hP : va_P D vwCl ([(h0, .inr (10, [.ref q_1, .ref q_2, .null, .null, .null, .null, .null, .null, .null])), (q_1, .inl (cA_1, 6, .inr (.inr (.inr (.inr (fun _ => none)))))), (q_2, .inl (cA_2, 4, .inr (.inr (.inr (.inr (fun _ => none)))))), (q_3, .inl (cA_3, 32, .inr (.inr (.inr (.inr (fun _ => none))))))] ++ zW K V) H := hP
  have hD : va_D A ([(h0, .inr (10, [.ref q_1, .ref q_2, .null, .null, .null, .null, .null, .null, .null])), (q_1, .inl (cA_1, 6, .inr (.inr (.inr (.inr (fun _ => none)))))), (q_2, .inl (cA_2, 4, .inr (.inr (.inr (.inr (fun _ => none)))))), (q_3, .inl (cA_3, 32, .inr (.inr (.inr (.inr (fun _ => none))))))] ++ zW K V) := hD
  have hK : va_K D vwCl [(cA_1, .object RX4), (cA_2, .object RX9), (cA_3, .object RX9)] s := hK
  refine W.widen (k := 3) (n := 42) (by omega) (by omega) ?_
  refine va_putF (D := D) (ci := 10) (v := .ref q_3) (ty := .array (.object "CardTables$Table")) (C := RX11) (T := TX11) (N := 9) hx hb hts in_10 tyX11 tyX11_ok nmX11 hown hK hP hD hS 0 rfl rfl 2 (by decide) (hts (.fieldLink RX11 21 "CardTables" "kept" "[LCardTables$Table;") (zt_t2 59 rfl rfl)) (fun _ h9 => h9) rfl hin rfl (by decide +kernel) rfl rfl (Nat.le_of_ble_eq_true rfl) dX11_init_27 (fun H locs hP hD hS => ?_)
  have hP : va_P D vwCl ([(h0, .inr (10, [.ref q_1, .ref q_2, .ref q_3, .null, .null, .null, .null, .null, .null])), (q_1, .inl (cA_1, 6, .inr (.inr (.inr (.inr (fun _ => none)))))), (q_2, .inl (cA_2, 4, .inr (.inr (.inr (.inr (fun _ => none)))))), (q_3, .inl (cA_3, 32, .inr (.inr (.inr (.inr (fun _ => none))))))] ++ zW K V) H := hP
  have hD : va_D A ([(h0, .inr (10, [.ref q_1, .ref q_2, .ref q_3, .null, .null, .null, .null, .null, .null])), (q_1, .inl (cA_1, 6, .inr (.inr (.inr (.inr (fun _ => none)))))), (q_2, .inl (cA_2, 4, .inr (.inr (.inr (.inr (fun _ => none)))))), (q_3, .inl (cA_3, 32, .inr (.inr (.inr (.inr (fun _ => none))))))] ++ zW K V) := hD
  refine lv_iconst (v := 0) hx hb dX11_init_30 (by decide) ?_
  refine lv_istore_n (lv' := [(1, .int 0), (0, .ref h0)]) hx hb dX11_init_31 rfl hl (by decide) rfl (fun ls hl => ?_)
  refine lv_iload_n hx hb dX11_init_32 rfl (lv_at hl 0 rfl) ?_
  refine lv_iconst (v := 4) hx hb dX11_init_33 (by decide) ?_
  refine lv_icmp_ge (tgt := 57) hx hb dX11_init_34 (by decide) (fun c_4 => ?_) (fun c_4 => ?_)
  · exact absurd c_4 (by decide +kernel)
  · skip
    refine lv_aload_n hx hb dX11_init_37 rfl (lv_at hl 1 rfl) ?_
    refine va_get (D := D) (ci := 10) (v := .ref q_2) (C := RX11) (T := TX11) (N := 9) hx hb hts in_10 hown hK hP 0 rfl rfl 1 (by decide) (hts (.fieldLink RX11 17 "CardTables" "tables" "[LCardTables$Table;") (zt_t2 58 rfl rfl)) (fun _ h9 => h9) rfl dX11_init_38 ?_
    refine lv_iload_n hx hb dX11_init_41 rfl (lv_at hl 0 rfl) ?_
    refine va_new (ci := 8) (fs := [.int 0, .null, .int 0, .int 0, .int 0, .null, .null, .null, .null, .null, .null, .null, .null, .null]) (C := RX9) (T := TX9) (N := 14) hx hb hts in_8 tyX9 tyX9_ok hown (hts (.classLink RX11 15 RX9) (zt_t1 27 rfl rfl)) (hts (.instantiable RX9 14) (zt_t1 29 rfl rfl)) (hts (.initialized RX9) (zt_t1 2 rfl rfl)) hK hP hD hS hA rfl (fun j hj => by rcases (show j = 0 ∨ j = 1 ∨ j = 2 ∨ j = 3 ∨ j = 4 ∨ j = 5 ∨ j = 6 ∨ j = 7 ∨ j = 8 ∨ j = 9 ∨ j = 10 ∨ j = 11 ∨ j = 12 ∨ j = 13 by omega) with rfl | rfl | rfl | rfl | rfl | rfl | rfl | rfl | rfl | rfl | rfl | rfl | rfl | rfl <;> rfl) (Nat.le_of_ble_eq_true rfl) (Nat.le_of_ble_eq_true rfl) dX11_init_42 (fun q_5 H hP hD hS => ?_)
    have hP : va_P D vwCl (([(h0, .inr (10, [.ref q_1, .ref q_2, .ref q_3, .null, .null, .null, .null, .null, .null])), (q_1, .inl (cA_1, 6, .inr (.inr (.inr (.inr (fun _ => none)))))), (q_2, .inl (cA_2, 4, .inr (.inr (.inr (.inr (fun _ => none)))))), (q_3, .inl (cA_3, 32, .inr (.inr (.inr (.inr (fun _ => none))))))] ++ zW K V) ++ [(q_5, .inr (8, [.int 0, .null, .int 0, .int 0, .int 0, .null, .null, .null, .null, .null, .null, .null, .null, .null]))]) H := hP
    have hD : va_D A (([(h0, .inr (10, [.ref q_1, .ref q_2, .ref q_3, .null, .null, .null, .null, .null, .null])), (q_1, .inl (cA_1, 6, .inr (.inr (.inr (.inr (fun _ => none)))))), (q_2, .inl (cA_2, 4, .inr (.inr (.inr (.inr (fun _ => none)))))), (q_3, .inl (cA_3, 32, .inr (.inr (.inr (.inr (fun _ => none))))))] ++ zW K V) ++ [(q_5, .inr (8, [.int 0, .null, .int 0, .int 0, .int 0, .null, .null, .null, .null, .null, .null, .null, .null, .null]))]) := hD
    refine W.widen (k := 4) (n := 56) (by omega) (by omega) ?_
    refine lv_dup hx hb dX11_init_45 rfl ?_
    refine lv_iload_n hx hb dX11_init_46 rfl (lv_at hl 0 rfl) ?_
    refine ccall (As := [.int 0]) (rest := [.ref q_5, .int 0, .ref q_2]) (k := 8) (X := [(h0, .inr (10, [.ref q_1, .ref q_2, .ref q_3, .null, .null, .null, .null, .null, .null])), (q_1, .inl (cA_1, 6, .inr (.inr (.inr (.inr (fun _ => none)))))), (q_2, .inl (cA_2, 4, .inr (.inr (.inr (.inr (fun _ => none)))))), (q_3, .inl (cA_3, 32, .inr (.inr (.inr (.inr (fun _ => none))))))]) C (c_Table_init l D q_5 H.size 0) (by decide) mc_X9_init (zt_t1 30 rfl rfl) ⟨Nat.le_of_ble_eq_true rfl, Nat.le_of_ble_eq_true rfl⟩ ⟨Nat.le_of_ble_eq_true rfl, Nat.le_of_ble_eq_true rfl⟩ hl.1 (Nat.le_of_ble_eq_true rfl) dX11_init_47 hC hP hD hS hA hAr hK hE (fun K V H locs hC hP hD hS hAr hle hq => ?_)
    have hz := hz.add hle hq
    have hr_q_2 := hr_q_2.le hle
    have hr_q_3 := hr_q_3.le hle
    clear hle hq
    refine W.widen (k := 32) (n := 605) (by omega) (by omega) ?_
    have hv := hz.get 0 rfl
    obtain ⟨i_6, hi⟩ := cat (X := [(h0, .inr (10, [.ref q_1, .ref q_2, .ref q_3, .null, .null, .null, .null, .null, .null])), (q_1, .inl (cA_1, 6, .inr (.inr (.inr (.inr (fun _ => none)))))), (q_2, .inl (cA_2, 4, .inr (.inr (.inr (.inr (fun _ => none)))))), (q_3, .inl (cA_3, 32, .inr (.inr (.inr (.inr (fun _ => none))))))]) (V := V) hv
    rw [zF_8 hv.2.1] at hi
    refine va_astq hx hb hK hP hD hS 2 1 i_6 8 rfl rfl hi rfl (by unfold vp_in; decide +kernel) dX11_init_50 (fun H locs hP hD hS => ?_)
    have hP : va_P D vwCl ([(h0, .inr (10, [.ref q_1, .ref q_2, .ref q_3, .null, .null, .null, .null, .null, .null])), (q_1, .inl (cA_1, 6, .inr (.inr (.inr (.inr (fun _ => none)))))), (q_2, .inl (cA_2, 4, .inr (.inr (.inr (.inr (va_up (fun _ => none) 0 (some q_5))))))), (q_3, .inl (cA_3, 32, .inr (.inr (.inr (.inr (fun _ => none))))))] ++ zW K V) H := hP
    have hD : va_D A ([(h0, .inr (10, [.ref q_1, .ref q_2, .ref q_3, .null, .null, .null, .null, .null, .null])), (q_1, .inl (cA_1, 6, .inr (.inr (.inr (.inr (fun _ => none)))))), (q_2, .inl (cA_2, 4, .inr (.inr (.inr (.inr (va_up (fun _ => none) 0 (some q_5))))))), (q_3, .inl (cA_3, 32, .inr (.inr (.inr (.inr (fun _ => none))))))] ++ zW K V) := hD
    have hr_q_2 := hr_q_2.push hv
    generalize va_up (fun _ => none) 0 (some q_5) = f_6 at hP hD hr_q_2
    clear hv hi
    have hz : zats K [] := fun q h => hz q (List.mem_cons_of_mem _ h)
    refine lv_iinc (v := 1) (lv' := [(1, .int 1), (0, .ref h0)]) hx hb dX11_init_51 hl (k := 0) rfl (by decide) (by decide) rfl (fun ls hl => ?_)
    refine lv_goto (tgt := 32) hx hb dX11_init_54 (by decide) ?_
    refine lv_iload_n hx hb dX11_init_32 rfl (lv_at hl 0 rfl) ?_
    refine lv_iconst (v := 4) hx hb dX11_init_33 (by decide) ?_
    refine lv_icmp_ge (tgt := 57) hx hb dX11_init_34 (by decide) (fun c_8 => ?_) (fun c_8 => ?_)
    · exact absurd c_8 (by decide +kernel)
    · skip
      refine lv_aload_n hx hb dX11_init_37 rfl (lv_at hl 1 rfl) ?_
      refine va_get (D := D) (ci := 10) (v := .ref q_2) (C := RX11) (T := TX11) (N := 9) hx hb hts in_10 hown hK hP 0 rfl rfl 1 (by decide) (hts (.fieldLink RX11 17 "CardTables" "tables" "[LCardTables$Table;") (zt_t2 58 rfl rfl)) (fun _ h9 => h9) rfl dX11_init_38 ?_
      refine lv_iload_n hx hb dX11_init_41 rfl (lv_at hl 0 rfl) ?_
      refine va_new (ci := 8) (fs := [.int 0, .null, .int 0, .int 0, .int 0, .null, .null, .null, .null, .null, .null, .null, .null, .null]) (C := RX9) (T := TX9) (N := 14) hx hb hts in_8 tyX9 tyX9_ok hown (hts (.classLink RX11 15 RX9) (zt_t1 27 rfl rfl)) (hts (.instantiable RX9 14) (zt_t1 29 rfl rfl)) (hts (.initialized RX9) (zt_t1 2 rfl rfl)) hK hP hD hS hA rfl (fun j hj => by rcases (show j = 0 ∨ j = 1 ∨ j = 2 ∨ j = 3 ∨ j = 4 ∨ j = 5 ∨ j = 6 ∨ j = 7 ∨ j = 8 ∨ j = 9 ∨ j = 10 ∨ j = 11 ∨ j = 12 ∨ j = 13 by omega) with rfl | rfl | rfl | rfl | rfl | rfl | rfl | rfl | rfl | rfl | rfl | rfl | rfl | rfl <;> rfl) (Nat.le_of_ble_eq_true rfl) (Nat.le_of_ble_eq_true rfl) dX11_init_42 (fun q_9 H hP hD hS => ?_)
      have hP : va_P D vwCl (([(h0, .inr (10, [.ref q_1, .ref q_2, .ref q_3, .null, .null, .null, .null, .null, .null])), (q_1, .inl (cA_1, 6, .inr (.inr (.inr (.inr (fun _ => none)))))), (q_2, .inl (cA_2, 4, .inr (.inr (.inr (.inr f_6))))), (q_3, .inl (cA_3, 32, .inr (.inr (.inr (.inr (fun _ => none))))))] ++ zW K V) ++ [(q_9, .inr (8, [.int 0, .null, .int 0, .int 0, .int 0, .null, .null, .null, .null, .null, .null, .null, .null, .null]))]) H := hP
      have hD : va_D A (([(h0, .inr (10, [.ref q_1, .ref q_2, .ref q_3, .null, .null, .null, .null, .null, .null])), (q_1, .inl (cA_1, 6, .inr (.inr (.inr (.inr (fun _ => none)))))), (q_2, .inl (cA_2, 4, .inr (.inr (.inr (.inr f_6))))), (q_3, .inl (cA_3, 32, .inr (.inr (.inr (.inr (fun _ => none))))))] ++ zW K V) ++ [(q_9, .inr (8, [.int 0, .null, .int 0, .int 0, .int 0, .null, .null, .null, .null, .null, .null, .null, .null, .null]))]) := hD
      refine W.widen (k := 33) (n := 619) (by omega) (by omega) ?_
      refine lv_dup hx hb dX11_init_45 rfl ?_
      refine lv_iload_n hx hb dX11_init_46 rfl (lv_at hl 0 rfl) ?_
      refine ccall (As := [.int 1]) (rest := [.ref q_9, .int 1, .ref q_2]) (k := 8) (X := [(h0, .inr (10, [.ref q_1, .ref q_2, .ref q_3, .null, .null, .null, .null, .null, .null])), (q_1, .inl (cA_1, 6, .inr (.inr (.inr (.inr (fun _ => none)))))), (q_2, .inl (cA_2, 4, .inr (.inr (.inr (.inr f_6))))), (q_3, .inl (cA_3, 32, .inr (.inr (.inr (.inr (fun _ => none))))))]) C (c_Table_init l D q_9 H.size 1) (by decide) mc_X9_init (zt_t1 30 rfl rfl) ⟨Nat.le_of_ble_eq_true rfl, Nat.le_of_ble_eq_true rfl⟩ ⟨Nat.le_of_ble_eq_true rfl, Nat.le_of_ble_eq_true rfl⟩ hl.1 (Nat.le_of_ble_eq_true rfl) dX11_init_47 hC hP hD hS hA hAr hK hE (fun K V H locs hC hP hD hS hAr hle hq => ?_)
      have hz := hz.add hle hq
      have hr_q_2 := hr_q_2.le hle
      have hr_q_3 := hr_q_3.le hle
      clear hle hq
      refine W.widen (k := 61) (n := 1168) (by omega) (by omega) ?_
      have hv := hz.get 0 rfl
      obtain ⟨i_10, hi⟩ := cat (X := [(h0, .inr (10, [.ref q_1, .ref q_2, .ref q_3, .null, .null, .null, .null, .null, .null])), (q_1, .inl (cA_1, 6, .inr (.inr (.inr (.inr (fun _ => none)))))), (q_2, .inl (cA_2, 4, .inr (.inr (.inr (.inr f_6))))), (q_3, .inl (cA_3, 32, .inr (.inr (.inr (.inr (fun _ => none))))))]) (V := V) hv
      rw [zF_8 hv.2.1] at hi
      refine va_astq hx hb hK hP hD hS 2 1 i_10 8 rfl rfl hi rfl (by unfold vp_in; decide +kernel) dX11_init_50 (fun H locs hP hD hS => ?_)
      have hP : va_P D vwCl ([(h0, .inr (10, [.ref q_1, .ref q_2, .ref q_3, .null, .null, .null, .null, .null, .null])), (q_1, .inl (cA_1, 6, .inr (.inr (.inr (.inr (fun _ => none)))))), (q_2, .inl (cA_2, 4, .inr (.inr (.inr (.inr (va_up f_6 1 (some q_9))))))), (q_3, .inl (cA_3, 32, .inr (.inr (.inr (.inr (fun _ => none))))))] ++ zW K V) H := hP
      have hD : va_D A ([(h0, .inr (10, [.ref q_1, .ref q_2, .ref q_3, .null, .null, .null, .null, .null, .null])), (q_1, .inl (cA_1, 6, .inr (.inr (.inr (.inr (fun _ => none)))))), (q_2, .inl (cA_2, 4, .inr (.inr (.inr (.inr (va_up f_6 1 (some q_9))))))), (q_3, .inl (cA_3, 32, .inr (.inr (.inr (.inr (fun _ => none))))))] ++ zW K V) := hD
      have hr_q_2 := hr_q_2.push hv
      generalize va_up f_6 1 (some q_9) = f_10 at hP hD hr_q_2
      clear hv hi
      have hz : zats K [] := fun q h => hz q (List.mem_cons_of_mem _ h)
      refine lv_iinc (v := 2) (lv' := [(1, .int 2), (0, .ref h0)]) hx hb dX11_init_51 hl (k := 0) rfl (by decide) (by decide) rfl (fun ls hl => ?_)
      refine lv_goto (tgt := 32) hx hb dX11_init_54 (by decide) ?_
      refine lv_iload_n hx hb dX11_init_32 rfl (lv_at hl 0 rfl) ?_
      refine lv_iconst (v := 4) hx hb dX11_init_33 (by decide) ?_
      refine lv_icmp_ge (tgt := 57) hx hb dX11_init_34 (by decide) (fun c_12 => ?_) (fun c_12 => ?_)
      · exact absurd c_12 (by decide +kernel)
      · skip
        refine lv_aload_n hx hb dX11_init_37 rfl (lv_at hl 1 rfl) ?_
        refine va_get (D := D) (ci := 10) (v := .ref q_2) (C := RX11) (T := TX11) (N := 9) hx hb hts in_10 hown hK hP 0 rfl rfl 1 (by decide) (hts (.fieldLink RX11 17 "CardTables" "tables" "[LCardTables$Table;") (zt_t2 58 rfl rfl)) (fun _ h9 => h9) rfl dX11_init_38 ?_
        refine lv_iload_n hx hb dX11_init_41 rfl (lv_at hl 0 rfl) ?_
        refine va_new (ci := 8) (fs := [.int 0, .null, .int 0, .int 0, .int 0, .null, .null, .null, .null, .null, .null, .null, .null, .null]) (C := RX9) (T := TX9) (N := 14) hx hb hts in_8 tyX9 tyX9_ok hown (hts (.classLink RX11 15 RX9) (zt_t1 27 rfl rfl)) (hts (.instantiable RX9 14) (zt_t1 29 rfl rfl)) (hts (.initialized RX9) (zt_t1 2 rfl rfl)) hK hP hD hS hA rfl (fun j hj => by rcases (show j = 0 ∨ j = 1 ∨ j = 2 ∨ j = 3 ∨ j = 4 ∨ j = 5 ∨ j = 6 ∨ j = 7 ∨ j = 8 ∨ j = 9 ∨ j = 10 ∨ j = 11 ∨ j = 12 ∨ j = 13 by omega) with rfl | rfl | rfl | rfl | rfl | rfl | rfl | rfl | rfl | rfl | rfl | rfl | rfl | rfl <;> rfl) (Nat.le_of_ble_eq_true rfl) (Nat.le_of_ble_eq_true rfl) dX11_init_42 (fun q_13 H hP hD hS => ?_)
        have hP : va_P D vwCl (([(h0, .inr (10, [.ref q_1, .ref q_2, .ref q_3, .null, .null, .null, .null, .null, .null])), (q_1, .inl (cA_1, 6, .inr (.inr (.inr (.inr (fun _ => none)))))), (q_2, .inl (cA_2, 4, .inr (.inr (.inr (.inr f_10))))), (q_3, .inl (cA_3, 32, .inr (.inr (.inr (.inr (fun _ => none))))))] ++ zW K V) ++ [(q_13, .inr (8, [.int 0, .null, .int 0, .int 0, .int 0, .null, .null, .null, .null, .null, .null, .null, .null, .null]))]) H := hP
        have hD : va_D A (([(h0, .inr (10, [.ref q_1, .ref q_2, .ref q_3, .null, .null, .null, .null, .null, .null])), (q_1, .inl (cA_1, 6, .inr (.inr (.inr (.inr (fun _ => none)))))), (q_2, .inl (cA_2, 4, .inr (.inr (.inr (.inr f_10))))), (q_3, .inl (cA_3, 32, .inr (.inr (.inr (.inr (fun _ => none))))))] ++ zW K V) ++ [(q_13, .inr (8, [.int 0, .null, .int 0, .int 0, .int 0, .null, .null, .null, .null, .null, .null, .null, .null, .null]))]) := hD
        refine W.widen (k := 62) (n := 1182) (by omega) (by omega) ?_
        refine lv_dup hx hb dX11_init_45 rfl ?_
        refine lv_iload_n hx hb dX11_init_46 rfl (lv_at hl 0 rfl) ?_
        refine ccall (As := [.int 2]) (rest := [.ref q_13, .int 2, .ref q_2]) (k := 8) (X := [(h0, .inr (10, [.ref q_1, .ref q_2, .ref q_3, .null, .null, .null, .null, .null, .null])), (q_1, .inl (cA_1, 6, .inr (.inr (.inr (.inr (fun _ => none)))))), (q_2, .inl (cA_2, 4, .inr (.inr (.inr (.inr f_10))))), (q_3, .inl (cA_3, 32, .inr (.inr (.inr (.inr (fun _ => none))))))]) C (c_Table_init l D q_13 H.size 2) (by decide) mc_X9_init (zt_t1 30 rfl rfl) ⟨Nat.le_of_ble_eq_true rfl, Nat.le_of_ble_eq_true rfl⟩ ⟨Nat.le_of_ble_eq_true rfl, Nat.le_of_ble_eq_true rfl⟩ hl.1 (Nat.le_of_ble_eq_true rfl) dX11_init_47 hC hP hD hS hA hAr hK hE (fun K V H locs hC hP hD hS hAr hle hq => ?_)
        have hz := hz.add hle hq
        have hr_q_2 := hr_q_2.le hle
        have hr_q_3 := hr_q_3.le hle
        clear hle hq
        refine W.widen (k := 90) (n := 1731) (by omega) (by omega) ?_
        have hv := hz.get 0 rfl
        obtain ⟨i_14, hi⟩ := cat (X := [(h0, .inr (10, [.ref q_1, .ref q_2, .ref q_3, .null, .null, .null, .null, .null, .null])), (q_1, .inl (cA_1, 6, .inr (.inr (.inr (.inr (fun _ => none)))))), (q_2, .inl (cA_2, 4, .inr (.inr (.inr (.inr f_10))))), (q_3, .inl (cA_3, 32, .inr (.inr (.inr (.inr (fun _ => none))))))]) (V := V) hv
        rw [zF_8 hv.2.1] at hi
        refine va_astq hx hb hK hP hD hS 2 1 i_14 8 rfl rfl hi rfl (by unfold vp_in; decide +kernel) dX11_init_50 (fun H locs hP hD hS => ?_)
        have hP : va_P D vwCl ([(h0, .inr (10, [.ref q_1, .ref q_2, .ref q_3, .null, .null, .null, .null, .null, .null])), (q_1, .inl (cA_1, 6, .inr (.inr (.inr (.inr (fun _ => none)))))), (q_2, .inl (cA_2, 4, .inr (.inr (.inr (.inr (va_up f_10 2 (some q_13))))))), (q_3, .inl (cA_3, 32, .inr (.inr (.inr (.inr (fun _ => none))))))] ++ zW K V) H := hP
        have hD : va_D A ([(h0, .inr (10, [.ref q_1, .ref q_2, .ref q_3, .null, .null, .null, .null, .null, .null])), (q_1, .inl (cA_1, 6, .inr (.inr (.inr (.inr (fun _ => none)))))), (q_2, .inl (cA_2, 4, .inr (.inr (.inr (.inr (va_up f_10 2 (some q_13))))))), (q_3, .inl (cA_3, 32, .inr (.inr (.inr (.inr (fun _ => none))))))] ++ zW K V) := hD
        have hr_q_2 := hr_q_2.push hv
        generalize va_up f_10 2 (some q_13) = f_14 at hP hD hr_q_2
        clear hv hi
        have hz : zats K [] := fun q h => hz q (List.mem_cons_of_mem _ h)
        refine lv_iinc (v := 3) (lv' := [(1, .int 3), (0, .ref h0)]) hx hb dX11_init_51 hl (k := 0) rfl (by decide) (by decide) rfl (fun ls hl => ?_)
        refine lv_goto (tgt := 32) hx hb dX11_init_54 (by decide) ?_
        refine lv_iload_n hx hb dX11_init_32 rfl (lv_at hl 0 rfl) ?_
        refine lv_iconst (v := 4) hx hb dX11_init_33 (by decide) ?_
        refine lv_icmp_ge (tgt := 57) hx hb dX11_init_34 (by decide) (fun c_16 => ?_) (fun c_16 => ?_)
        · exact absurd c_16 (by decide +kernel)
        · skip
          refine lv_aload_n hx hb dX11_init_37 rfl (lv_at hl 1 rfl) ?_
          refine va_get (D := D) (ci := 10) (v := .ref q_2) (C := RX11) (T := TX11) (N := 9) hx hb hts in_10 hown hK hP 0 rfl rfl 1 (by decide) (hts (.fieldLink RX11 17 "CardTables" "tables" "[LCardTables$Table;") (zt_t2 58 rfl rfl)) (fun _ h9 => h9) rfl dX11_init_38 ?_
          refine lv_iload_n hx hb dX11_init_41 rfl (lv_at hl 0 rfl) ?_
          refine va_new (ci := 8) (fs := [.int 0, .null, .int 0, .int 0, .int 0, .null, .null, .null, .null, .null, .null, .null, .null, .null]) (C := RX9) (T := TX9) (N := 14) hx hb hts in_8 tyX9 tyX9_ok hown (hts (.classLink RX11 15 RX9) (zt_t1 27 rfl rfl)) (hts (.instantiable RX9 14) (zt_t1 29 rfl rfl)) (hts (.initialized RX9) (zt_t1 2 rfl rfl)) hK hP hD hS hA rfl (fun j hj => by rcases (show j = 0 ∨ j = 1 ∨ j = 2 ∨ j = 3 ∨ j = 4 ∨ j = 5 ∨ j = 6 ∨ j = 7 ∨ j = 8 ∨ j = 9 ∨ j = 10 ∨ j = 11 ∨ j = 12 ∨ j = 13 by omega) with rfl | rfl | rfl | rfl | rfl | rfl | rfl | rfl | rfl | rfl | rfl | rfl | rfl | rfl <;> rfl) (Nat.le_of_ble_eq_true rfl) (Nat.le_of_ble_eq_true rfl) dX11_init_42 (fun q_17 H hP hD hS => ?_)
          have hP : va_P D vwCl (([(h0, .inr (10, [.ref q_1, .ref q_2, .ref q_3, .null, .null, .null, .null, .null, .null])), (q_1, .inl (cA_1, 6, .inr (.inr (.inr (.inr (fun _ => none)))))), (q_2, .inl (cA_2, 4, .inr (.inr (.inr (.inr f_14))))), (q_3, .inl (cA_3, 32, .inr (.inr (.inr (.inr (fun _ => none))))))] ++ zW K V) ++ [(q_17, .inr (8, [.int 0, .null, .int 0, .int 0, .int 0, .null, .null, .null, .null, .null, .null, .null, .null, .null]))]) H := hP
          have hD : va_D A (([(h0, .inr (10, [.ref q_1, .ref q_2, .ref q_3, .null, .null, .null, .null, .null, .null])), (q_1, .inl (cA_1, 6, .inr (.inr (.inr (.inr (fun _ => none)))))), (q_2, .inl (cA_2, 4, .inr (.inr (.inr (.inr f_14))))), (q_3, .inl (cA_3, 32, .inr (.inr (.inr (.inr (fun _ => none))))))] ++ zW K V) ++ [(q_17, .inr (8, [.int 0, .null, .int 0, .int 0, .int 0, .null, .null, .null, .null, .null, .null, .null, .null, .null]))]) := hD
          refine W.widen (k := 91) (n := 1745) (by omega) (by omega) ?_
          refine lv_dup hx hb dX11_init_45 rfl ?_
          refine lv_iload_n hx hb dX11_init_46 rfl (lv_at hl 0 rfl) ?_
          refine ccall (As := [.int 3]) (rest := [.ref q_17, .int 3, .ref q_2]) (k := 8) (X := [(h0, .inr (10, [.ref q_1, .ref q_2, .ref q_3, .null, .null, .null, .null, .null, .null])), (q_1, .inl (cA_1, 6, .inr (.inr (.inr (.inr (fun _ => none)))))), (q_2, .inl (cA_2, 4, .inr (.inr (.inr (.inr f_14))))), (q_3, .inl (cA_3, 32, .inr (.inr (.inr (.inr (fun _ => none))))))]) C (c_Table_init l D q_17 H.size 3) (by decide) mc_X9_init (zt_t1 30 rfl rfl) ⟨Nat.le_of_ble_eq_true rfl, Nat.le_of_ble_eq_true rfl⟩ ⟨Nat.le_of_ble_eq_true rfl, Nat.le_of_ble_eq_true rfl⟩ hl.1 (Nat.le_of_ble_eq_true rfl) dX11_init_47 hC hP hD hS hA hAr hK hE (fun K V H locs hC hP hD hS hAr hle hq => ?_)
          have hz := hz.add hle hq
          have hr_q_2 := hr_q_2.le hle
          have hr_q_3 := hr_q_3.le hle
          clear hle hq
          refine W.widen (k := 119) (n := 2294) (by omega) (by omega) ?_
          have hv := hz.get 0 rfl
          obtain ⟨i_18, hi⟩ := cat (X := [(h0, .inr (10, [.ref q_1, .ref q_2, .ref q_3, .null, .null, .null, .null, .null, .null])), (q_1, .inl (cA_1, 6, .inr (.inr (.inr (.inr (fun _ => none)))))), (q_2, .inl (cA_2, 4, .inr (.inr (.inr (.inr f_14))))), (q_3, .inl (cA_3, 32, .inr (.inr (.inr (.inr (fun _ => none))))))]) (V := V) hv
          rw [zF_8 hv.2.1] at hi
          refine va_astq hx hb hK hP hD hS 2 1 i_18 8 rfl rfl hi rfl (by unfold vp_in; decide +kernel) dX11_init_50 (fun H locs hP hD hS => ?_)
          have hP : va_P D vwCl ([(h0, .inr (10, [.ref q_1, .ref q_2, .ref q_3, .null, .null, .null, .null, .null, .null])), (q_1, .inl (cA_1, 6, .inr (.inr (.inr (.inr (fun _ => none)))))), (q_2, .inl (cA_2, 4, .inr (.inr (.inr (.inr (va_up f_14 3 (some q_17))))))), (q_3, .inl (cA_3, 32, .inr (.inr (.inr (.inr (fun _ => none))))))] ++ zW K V) H := hP
          have hD : va_D A ([(h0, .inr (10, [.ref q_1, .ref q_2, .ref q_3, .null, .null, .null, .null, .null, .null])), (q_1, .inl (cA_1, 6, .inr (.inr (.inr (.inr (fun _ => none)))))), (q_2, .inl (cA_2, 4, .inr (.inr (.inr (.inr (va_up f_14 3 (some q_17))))))), (q_3, .inl (cA_3, 32, .inr (.inr (.inr (.inr (fun _ => none))))))] ++ zW K V) := hD
          have hr_q_2 := hr_q_2.push hv
          generalize va_up f_14 3 (some q_17) = f_18 at hP hD hr_q_2
          clear hv hi
          have hz : zats K [] := fun q h => hz q (List.mem_cons_of_mem _ h)
          refine lv_iinc (v := 4) (lv' := [(1, .int 4), (0, .ref h0)]) hx hb dX11_init_51 hl (k := 0) rfl (by decide) (by decide) rfl (fun ls hl => ?_)
          refine lv_goto (tgt := 32) hx hb dX11_init_54 (by decide) ?_
          refine lv_iload_n hx hb dX11_init_32 rfl (lv_at hl 0 rfl) ?_
          refine lv_iconst (v := 4) hx hb dX11_init_33 (by decide) ?_
          refine lv_icmp_ge (tgt := 57) hx hb dX11_init_34 (by decide) (fun c_20 => ?_) (fun c_20 => ?_)
          · skip
            refine lv_iconst (v := 0) hx hb dX11_init_57 (by decide) ?_
            refine lv_istore_n (lv' := [(1, .int 0), (0, .ref h0)]) hx hb dX11_init_58 rfl hl (by decide) rfl (fun ls hl => ?_)
            refine lv_iload_n hx hb dX11_init_59 rfl (lv_at hl 0 rfl) ?_
            refine lv_bipush (v := 32) hx hb dX11_init_60 (by decide) ?_
            refine lv_icmp_ge (tgt := 85) hx hb dX11_init_62 (by decide) (fun c_21 => ?_) (fun c_21 => ?_)
            · exact absurd c_21 (by decide +kernel)
            · skip
              refine lv_aload_n hx hb dX11_init_65 rfl (lv_at hl 1 rfl) ?_
              refine va_get (D := D) (ci := 10) (v := .ref q_3) (C := RX11) (T := TX11) (N := 9) hx hb hts in_10 hown hK hP 0 rfl rfl 2 (by decide) (hts (.fieldLink RX11 21 "CardTables" "kept" "[LCardTables$Table;") (zt_t2 59 rfl rfl)) (fun _ h9 => h9) rfl dX11_init_66 ?_
              refine lv_iload_n hx hb dX11_init_69 rfl (lv_at hl 0 rfl) ?_
              refine va_new (ci := 8) (fs := [.int 0, .null, .int 0, .int 0, .int 0, .null, .null, .null, .null, .null, .null, .null, .null, .null]) (C := RX9) (T := TX9) (N := 14) hx hb hts in_8 tyX9 tyX9_ok hown (hts (.classLink RX11 15 RX9) (zt_t1 27 rfl rfl)) (hts (.instantiable RX9 14) (zt_t1 29 rfl rfl)) (hts (.initialized RX9) (zt_t1 2 rfl rfl)) hK hP hD hS hA rfl (fun j hj => by rcases (show j = 0 ∨ j = 1 ∨ j = 2 ∨ j = 3 ∨ j = 4 ∨ j = 5 ∨ j = 6 ∨ j = 7 ∨ j = 8 ∨ j = 9 ∨ j = 10 ∨ j = 11 ∨ j = 12 ∨ j = 13 by omega) with rfl | rfl | rfl | rfl | rfl | rfl | rfl | rfl | rfl | rfl | rfl | rfl | rfl | rfl <;> rfl) (Nat.le_of_ble_eq_true rfl) (Nat.le_of_ble_eq_true rfl) dX11_init_70 (fun q_22 H hP hD hS => ?_)
              have hP : va_P D vwCl (([(h0, .inr (10, [.ref q_1, .ref q_2, .ref q_3, .null, .null, .null, .null, .null, .null])), (q_1, .inl (cA_1, 6, .inr (.inr (.inr (.inr (fun _ => none)))))), (q_2, .inl (cA_2, 4, .inr (.inr (.inr (.inr f_18))))), (q_3, .inl (cA_3, 32, .inr (.inr (.inr (.inr (fun _ => none))))))] ++ zW K V) ++ [(q_22, .inr (8, [.int 0, .null, .int 0, .int 0, .int 0, .null, .null, .null, .null, .null, .null, .null, .null, .null]))]) H := hP
              have hD : va_D A (([(h0, .inr (10, [.ref q_1, .ref q_2, .ref q_3, .null, .null, .null, .null, .null, .null])), (q_1, .inl (cA_1, 6, .inr (.inr (.inr (.inr (fun _ => none)))))), (q_2, .inl (cA_2, 4, .inr (.inr (.inr (.inr f_18))))), (q_3, .inl (cA_3, 32, .inr (.inr (.inr (.inr (fun _ => none))))))] ++ zW K V) ++ [(q_22, .inr (8, [.int 0, .null, .int 0, .int 0, .int 0, .null, .null, .null, .null, .null, .null, .null, .null, .null]))]) := hD
              refine W.widen (k := 120) (n := 2308) (by omega) (by omega) ?_
              refine lv_dup hx hb dX11_init_73 rfl ?_
              refine lv_iconst (v := (-1)) hx hb dX11_init_74 (by decide) ?_
              refine ccall (As := [.int (-1)]) (rest := [.ref q_22, .int 0, .ref q_3]) (k := 8) (X := [(h0, .inr (10, [.ref q_1, .ref q_2, .ref q_3, .null, .null, .null, .null, .null, .null])), (q_1, .inl (cA_1, 6, .inr (.inr (.inr (.inr (fun _ => none)))))), (q_2, .inl (cA_2, 4, .inr (.inr (.inr (.inr f_18))))), (q_3, .inl (cA_3, 32, .inr (.inr (.inr (.inr (fun _ => none))))))]) C (c_Table_init l D q_22 H.size (-1)) (by decide) mc_X9_init (zt_t1 30 rfl rfl) ⟨Nat.le_of_ble_eq_true rfl, Nat.le_of_ble_eq_true rfl⟩ ⟨Nat.le_of_ble_eq_true rfl, Nat.le_of_ble_eq_true rfl⟩ hl.1 (Nat.le_of_ble_eq_true rfl) dX11_init_75 hC hP hD hS hA hAr hK hE (fun K V H locs hC hP hD hS hAr hle hq => ?_)
              have hz := hz.add hle hq
              have hr_q_2 := hr_q_2.le hle
              have hr_q_3 := hr_q_3.le hle
              clear hle hq
              refine W.widen (k := 148) (n := 2857) (by omega) (by omega) ?_
              have hv := hz.get 0 rfl
              obtain ⟨i_23, hi⟩ := cat (X := [(h0, .inr (10, [.ref q_1, .ref q_2, .ref q_3, .null, .null, .null, .null, .null, .null])), (q_1, .inl (cA_1, 6, .inr (.inr (.inr (.inr (fun _ => none)))))), (q_2, .inl (cA_2, 4, .inr (.inr (.inr (.inr f_18))))), (q_3, .inl (cA_3, 32, .inr (.inr (.inr (.inr (fun _ => none))))))]) (V := V) hv
              rw [zF_8 hv.2.1] at hi
              refine va_astq hx hb hK hP hD hS 3 2 i_23 8 rfl rfl hi rfl (by unfold vp_in; decide +kernel) dX11_init_78 (fun H locs hP hD hS => ?_)
              have hP : va_P D vwCl ([(h0, .inr (10, [.ref q_1, .ref q_2, .ref q_3, .null, .null, .null, .null, .null, .null])), (q_1, .inl (cA_1, 6, .inr (.inr (.inr (.inr (fun _ => none)))))), (q_2, .inl (cA_2, 4, .inr (.inr (.inr (.inr f_18))))), (q_3, .inl (cA_3, 32, .inr (.inr (.inr (.inr (va_up (fun _ => none) 0 (some q_22)))))))] ++ zW K V) H := hP
              have hD : va_D A ([(h0, .inr (10, [.ref q_1, .ref q_2, .ref q_3, .null, .null, .null, .null, .null, .null])), (q_1, .inl (cA_1, 6, .inr (.inr (.inr (.inr (fun _ => none)))))), (q_2, .inl (cA_2, 4, .inr (.inr (.inr (.inr f_18))))), (q_3, .inl (cA_3, 32, .inr (.inr (.inr (.inr (va_up (fun _ => none) 0 (some q_22)))))))] ++ zW K V) := hD
              have hr_q_3 := hr_q_3.push hv
              generalize va_up (fun _ => none) 0 (some q_22) = f_23 at hP hD hr_q_3
              clear hv hi
              have hz : zats K [] := fun q h => hz q (List.mem_cons_of_mem _ h)
              refine lv_iinc (v := 1) (lv' := [(1, .int 1), (0, .ref h0)]) hx hb dX11_init_79 hl (k := 0) rfl (by decide) (by decide) rfl (fun ls hl => ?_)
              refine lv_goto (tgt := 59) hx hb dX11_init_82 (by decide) ?_
              refine lv_iload_n hx hb dX11_init_59 rfl (lv_at hl 0 rfl) ?_
              refine lv_bipush (v := 32) hx hb dX11_init_60 (by decide) ?_
              refine lv_icmp_ge (tgt := 85) hx hb dX11_init_62 (by decide) (fun c_25 => ?_) (fun c_25 => ?_)
              · exact absurd c_25 (by decide +kernel)
              · skip
                refine lv_aload_n hx hb dX11_init_65 rfl (lv_at hl 1 rfl) ?_
                refine va_get (D := D) (ci := 10) (v := .ref q_3) (C := RX11) (T := TX11) (N := 9) hx hb hts in_10 hown hK hP 0 rfl rfl 2 (by decide) (hts (.fieldLink RX11 21 "CardTables" "kept" "[LCardTables$Table;") (zt_t2 59 rfl rfl)) (fun _ h9 => h9) rfl dX11_init_66 ?_
                refine lv_iload_n hx hb dX11_init_69 rfl (lv_at hl 0 rfl) ?_
                refine va_new (ci := 8) (fs := [.int 0, .null, .int 0, .int 0, .int 0, .null, .null, .null, .null, .null, .null, .null, .null, .null]) (C := RX9) (T := TX9) (N := 14) hx hb hts in_8 tyX9 tyX9_ok hown (hts (.classLink RX11 15 RX9) (zt_t1 27 rfl rfl)) (hts (.instantiable RX9 14) (zt_t1 29 rfl rfl)) (hts (.initialized RX9) (zt_t1 2 rfl rfl)) hK hP hD hS hA rfl (fun j hj => by rcases (show j = 0 ∨ j = 1 ∨ j = 2 ∨ j = 3 ∨ j = 4 ∨ j = 5 ∨ j = 6 ∨ j = 7 ∨ j = 8 ∨ j = 9 ∨ j = 10 ∨ j = 11 ∨ j = 12 ∨ j = 13 by omega) with rfl | rfl | rfl | rfl | rfl | rfl | rfl | rfl | rfl | rfl | rfl | rfl | rfl | rfl <;> rfl) (Nat.le_of_ble_eq_true rfl) (Nat.le_of_ble_eq_true rfl) dX11_init_70 (fun q_26 H hP hD hS => ?_)
                have hP : va_P D vwCl (([(h0, .inr (10, [.ref q_1, .ref q_2, .ref q_3, .null, .null, .null, .null, .null, .null])), (q_1, .inl (cA_1, 6, .inr (.inr (.inr (.inr (fun _ => none)))))), (q_2, .inl (cA_2, 4, .inr (.inr (.inr (.inr f_18))))), (q_3, .inl (cA_3, 32, .inr (.inr (.inr (.inr f_23)))))] ++ zW K V) ++ [(q_26, .inr (8, [.int 0, .null, .int 0, .int 0, .int 0, .null, .null, .null, .null, .null, .null, .null, .null, .null]))]) H := hP
                have hD : va_D A (([(h0, .inr (10, [.ref q_1, .ref q_2, .ref q_3, .null, .null, .null, .null, .null, .null])), (q_1, .inl (cA_1, 6, .inr (.inr (.inr (.inr (fun _ => none)))))), (q_2, .inl (cA_2, 4, .inr (.inr (.inr (.inr f_18))))), (q_3, .inl (cA_3, 32, .inr (.inr (.inr (.inr f_23)))))] ++ zW K V) ++ [(q_26, .inr (8, [.int 0, .null, .int 0, .int 0, .int 0, .null, .null, .null, .null, .null, .null, .null, .null, .null]))]) := hD
                refine W.widen (k := 149) (n := 2871) (by omega) (by omega) ?_
                refine lv_dup hx hb dX11_init_73 rfl ?_
                refine lv_iconst (v := (-1)) hx hb dX11_init_74 (by decide) ?_
                refine ccall (As := [.int (-1)]) (rest := [.ref q_26, .int 1, .ref q_3]) (k := 8) (X := [(h0, .inr (10, [.ref q_1, .ref q_2, .ref q_3, .null, .null, .null, .null, .null, .null])), (q_1, .inl (cA_1, 6, .inr (.inr (.inr (.inr (fun _ => none)))))), (q_2, .inl (cA_2, 4, .inr (.inr (.inr (.inr f_18))))), (q_3, .inl (cA_3, 32, .inr (.inr (.inr (.inr f_23)))))]) C (c_Table_init l D q_26 H.size (-1)) (by decide) mc_X9_init (zt_t1 30 rfl rfl) ⟨Nat.le_of_ble_eq_true rfl, Nat.le_of_ble_eq_true rfl⟩ ⟨Nat.le_of_ble_eq_true rfl, Nat.le_of_ble_eq_true rfl⟩ hl.1 (Nat.le_of_ble_eq_true rfl) dX11_init_75 hC hP hD hS hA hAr hK hE (fun K V H locs hC hP hD hS hAr hle hq => ?_)
                have hz := hz.add hle hq
                have hr_q_2 := hr_q_2.le hle
                have hr_q_3 := hr_q_3.le hle
                clear hle hq
                refine W.widen (k := 177) (n := 3420) (by omega) (by omega) ?_
                have hv := hz.get 0 rfl
                obtain ⟨i_27, hi⟩ := cat (X := [(h0, .inr (10, [.ref q_1, .ref q_2, .ref q_3, .null, .null, .null, .null, .null, .null])), (q_1, .inl (cA_1, 6, .inr (.inr (.inr (.inr (fun _ => none)))))), (q_2, .inl (cA_2, 4, .inr (.inr (.inr (.inr f_18))))), (q_3, .inl (cA_3, 32, .inr (.inr (.inr (.inr f_23)))))]) (V := V) hv
                rw [zF_8 hv.2.1] at hi
                refine va_astq hx hb hK hP hD hS 3 2 i_27 8 rfl rfl hi rfl (by unfold vp_in; decide +kernel) dX11_init_78 (fun H locs hP hD hS => ?_)
                have hP : va_P D vwCl ([(h0, .inr (10, [.ref q_1, .ref q_2, .ref q_3, .null, .null, .null, .null, .null, .null])), (q_1, .inl (cA_1, 6, .inr (.inr (.inr (.inr (fun _ => none)))))), (q_2, .inl (cA_2, 4, .inr (.inr (.inr (.inr f_18))))), (q_3, .inl (cA_3, 32, .inr (.inr (.inr (.inr (va_up f_23 1 (some q_26)))))))] ++ zW K V) H := hP
                have hD : va_D A ([(h0, .inr (10, [.ref q_1, .ref q_2, .ref q_3, .null, .null, .null, .null, .null, .null])), (q_1, .inl (cA_1, 6, .inr (.inr (.inr (.inr (fun _ => none)))))), (q_2, .inl (cA_2, 4, .inr (.inr (.inr (.inr f_18))))), (q_3, .inl (cA_3, 32, .inr (.inr (.inr (.inr (va_up f_23 1 (some q_26)))))))] ++ zW K V) := hD
                have hr_q_3 := hr_q_3.push hv
                generalize va_up f_23 1 (some q_26) = f_27 at hP hD hr_q_3
                clear hv hi
                have hz : zats K [] := fun q h => hz q (List.mem_cons_of_mem _ h)
                refine lv_iinc (v := 2) (lv' := [(1, .int 2), (0, .ref h0)]) hx hb dX11_init_79 hl (k := 0) rfl (by decide) (by decide) rfl (fun ls hl => ?_)
                refine lv_goto (tgt := 59) hx hb dX11_init_82 (by decide) ?_
                refine lv_iload_n hx hb dX11_init_59 rfl (lv_at hl 0 rfl) ?_
                refine lv_bipush (v := 32) hx hb dX11_init_60 (by decide) ?_
                refine lv_icmp_ge (tgt := 85) hx hb dX11_init_62 (by decide) (fun c_29 => ?_) (fun c_29 => ?_)
                · exact absurd c_29 (by decide +kernel)
                · skip
                  refine lv_aload_n hx hb dX11_init_65 rfl (lv_at hl 1 rfl) ?_
                  refine va_get (D := D) (ci := 10) (v := .ref q_3) (C := RX11) (T := TX11) (N := 9) hx hb hts in_10 hown hK hP 0 rfl rfl 2 (by decide) (hts (.fieldLink RX11 21 "CardTables" "kept" "[LCardTables$Table;") (zt_t2 59 rfl rfl)) (fun _ h9 => h9) rfl dX11_init_66 ?_
                  refine lv_iload_n hx hb dX11_init_69 rfl (lv_at hl 0 rfl) ?_
                  refine va_new (ci := 8) (fs := [.int 0, .null, .int 0, .int 0, .int 0, .null, .null, .null, .null, .null, .null, .null, .null, .null]) (C := RX9) (T := TX9) (N := 14) hx hb hts in_8 tyX9 tyX9_ok hown (hts (.classLink RX11 15 RX9) (zt_t1 27 rfl rfl)) (hts (.instantiable RX9 14) (zt_t1 29 rfl rfl)) (hts (.initialized RX9) (zt_t1 2 rfl rfl)) hK hP hD hS hA rfl (fun j hj => by rcases (show j = 0 ∨ j = 1 ∨ j = 2 ∨ j = 3 ∨ j = 4 ∨ j = 5 ∨ j = 6 ∨ j = 7 ∨ j = 8 ∨ j = 9 ∨ j = 10 ∨ j = 11 ∨ j = 12 ∨ j = 13 by omega) with rfl | rfl | rfl | rfl | rfl | rfl | rfl | rfl | rfl | rfl | rfl | rfl | rfl | rfl <;> rfl) (Nat.le_of_ble_eq_true rfl) (Nat.le_of_ble_eq_true rfl) dX11_init_70 (fun q_30 H hP hD hS => ?_)
                  have hP : va_P D vwCl (([(h0, .inr (10, [.ref q_1, .ref q_2, .ref q_3, .null, .null, .null, .null, .null, .null])), (q_1, .inl (cA_1, 6, .inr (.inr (.inr (.inr (fun _ => none)))))), (q_2, .inl (cA_2, 4, .inr (.inr (.inr (.inr f_18))))), (q_3, .inl (cA_3, 32, .inr (.inr (.inr (.inr f_27)))))] ++ zW K V) ++ [(q_30, .inr (8, [.int 0, .null, .int 0, .int 0, .int 0, .null, .null, .null, .null, .null, .null, .null, .null, .null]))]) H := hP
                  have hD : va_D A (([(h0, .inr (10, [.ref q_1, .ref q_2, .ref q_3, .null, .null, .null, .null, .null, .null])), (q_1, .inl (cA_1, 6, .inr (.inr (.inr (.inr (fun _ => none)))))), (q_2, .inl (cA_2, 4, .inr (.inr (.inr (.inr f_18))))), (q_3, .inl (cA_3, 32, .inr (.inr (.inr (.inr f_27)))))] ++ zW K V) ++ [(q_30, .inr (8, [.int 0, .null, .int 0, .int 0, .int 0, .null, .null, .null, .null, .null, .null, .null, .null, .null]))]) := hD
                  refine W.widen (k := 178) (n := 3434) (by omega) (by omega) ?_
                  refine lv_dup hx hb dX11_init_73 rfl ?_
                  refine lv_iconst (v := (-1)) hx hb dX11_init_74 (by decide) ?_
                  refine ccall (As := [.int (-1)]) (rest := [.ref q_30, .int 2, .ref q_3]) (k := 8) (X := [(h0, .inr (10, [.ref q_1, .ref q_2, .ref q_3, .null, .null, .null, .null, .null, .null])), (q_1, .inl (cA_1, 6, .inr (.inr (.inr (.inr (fun _ => none)))))), (q_2, .inl (cA_2, 4, .inr (.inr (.inr (.inr f_18))))), (q_3, .inl (cA_3, 32, .inr (.inr (.inr (.inr f_27)))))]) C (c_Table_init l D q_30 H.size (-1)) (by decide) mc_X9_init (zt_t1 30 rfl rfl) ⟨Nat.le_of_ble_eq_true rfl, Nat.le_of_ble_eq_true rfl⟩ ⟨Nat.le_of_ble_eq_true rfl, Nat.le_of_ble_eq_true rfl⟩ hl.1 (Nat.le_of_ble_eq_true rfl) dX11_init_75 hC hP hD hS hA hAr hK hE (fun K V H locs hC hP hD hS hAr hle hq => ?_)
                  have hz := hz.add hle hq
                  have hr_q_2 := hr_q_2.le hle
                  have hr_q_3 := hr_q_3.le hle
                  clear hle hq
                  refine W.widen (k := 206) (n := 3983) (by omega) (by omega) ?_
                  have hv := hz.get 0 rfl
                  obtain ⟨i_31, hi⟩ := cat (X := [(h0, .inr (10, [.ref q_1, .ref q_2, .ref q_3, .null, .null, .null, .null, .null, .null])), (q_1, .inl (cA_1, 6, .inr (.inr (.inr (.inr (fun _ => none)))))), (q_2, .inl (cA_2, 4, .inr (.inr (.inr (.inr f_18))))), (q_3, .inl (cA_3, 32, .inr (.inr (.inr (.inr f_27)))))]) (V := V) hv
                  rw [zF_8 hv.2.1] at hi
                  refine va_astq hx hb hK hP hD hS 3 2 i_31 8 rfl rfl hi rfl (by unfold vp_in; decide +kernel) dX11_init_78 (fun H locs hP hD hS => ?_)
                  have hP : va_P D vwCl ([(h0, .inr (10, [.ref q_1, .ref q_2, .ref q_3, .null, .null, .null, .null, .null, .null])), (q_1, .inl (cA_1, 6, .inr (.inr (.inr (.inr (fun _ => none)))))), (q_2, .inl (cA_2, 4, .inr (.inr (.inr (.inr f_18))))), (q_3, .inl (cA_3, 32, .inr (.inr (.inr (.inr (va_up f_27 2 (some q_30)))))))] ++ zW K V) H := hP
                  have hD : va_D A ([(h0, .inr (10, [.ref q_1, .ref q_2, .ref q_3, .null, .null, .null, .null, .null, .null])), (q_1, .inl (cA_1, 6, .inr (.inr (.inr (.inr (fun _ => none)))))), (q_2, .inl (cA_2, 4, .inr (.inr (.inr (.inr f_18))))), (q_3, .inl (cA_3, 32, .inr (.inr (.inr (.inr (va_up f_27 2 (some q_30)))))))] ++ zW K V) := hD
                  have hr_q_3 := hr_q_3.push hv
                  generalize va_up f_27 2 (some q_30) = f_31 at hP hD hr_q_3
                  clear hv hi
                  have hz : zats K [] := fun q h => hz q (List.mem_cons_of_mem _ h)
                  refine lv_iinc (v := 3) (lv' := [(1, .int 3), (0, .ref h0)]) hx hb dX11_init_79 hl (k := 0) rfl (by decide) (by decide) rfl (fun ls hl => ?_)
                  refine lv_goto (tgt := 59) hx hb dX11_init_82 (by decide) ?_
                  refine lv_iload_n hx hb dX11_init_59 rfl (lv_at hl 0 rfl) ?_
                  refine lv_bipush (v := 32) hx hb dX11_init_60 (by decide) ?_
                  refine lv_icmp_ge (tgt := 85) hx hb dX11_init_62 (by decide) (fun c_33 => ?_) (fun c_33 => ?_)
                  · exact absurd c_33 (by decide +kernel)
                  · skip
                    refine lv_aload_n hx hb dX11_init_65 rfl (lv_at hl 1 rfl) ?_
                    refine va_get (D := D) (ci := 10) (v := .ref q_3) (C := RX11) (T := TX11) (N := 9) hx hb hts in_10 hown hK hP 0 rfl rfl 2 (by decide) (hts (.fieldLink RX11 21 "CardTables" "kept" "[LCardTables$Table;") (zt_t2 59 rfl rfl)) (fun _ h9 => h9) rfl dX11_init_66 ?_
                    refine lv_iload_n hx hb dX11_init_69 rfl (lv_at hl 0 rfl) ?_
                    refine va_new (ci := 8) (fs := [.int 0, .null, .int 0, .int 0, .int 0, .null, .null, .null, .null, .null, .null, .null, .null, .null]) (C := RX9) (T := TX9) (N := 14) hx hb hts in_8 tyX9 tyX9_ok hown (hts (.classLink RX11 15 RX9) (zt_t1 27 rfl rfl)) (hts (.instantiable RX9 14) (zt_t1 29 rfl rfl)) (hts (.initialized RX9) (zt_t1 2 rfl rfl)) hK hP hD hS hA rfl (fun j hj => by rcases (show j = 0 ∨ j = 1 ∨ j = 2 ∨ j = 3 ∨ j = 4 ∨ j = 5 ∨ j = 6 ∨ j = 7 ∨ j = 8 ∨ j = 9 ∨ j = 10 ∨ j = 11 ∨ j = 12 ∨ j = 13 by omega) with rfl | rfl | rfl | rfl | rfl | rfl | rfl | rfl | rfl | rfl | rfl | rfl | rfl | rfl <;> rfl) (Nat.le_of_ble_eq_true rfl) (Nat.le_of_ble_eq_true rfl) dX11_init_70 (fun q_34 H hP hD hS => ?_)
                    have hP : va_P D vwCl (([(h0, .inr (10, [.ref q_1, .ref q_2, .ref q_3, .null, .null, .null, .null, .null, .null])), (q_1, .inl (cA_1, 6, .inr (.inr (.inr (.inr (fun _ => none)))))), (q_2, .inl (cA_2, 4, .inr (.inr (.inr (.inr f_18))))), (q_3, .inl (cA_3, 32, .inr (.inr (.inr (.inr f_31)))))] ++ zW K V) ++ [(q_34, .inr (8, [.int 0, .null, .int 0, .int 0, .int 0, .null, .null, .null, .null, .null, .null, .null, .null, .null]))]) H := hP
                    have hD : va_D A (([(h0, .inr (10, [.ref q_1, .ref q_2, .ref q_3, .null, .null, .null, .null, .null, .null])), (q_1, .inl (cA_1, 6, .inr (.inr (.inr (.inr (fun _ => none)))))), (q_2, .inl (cA_2, 4, .inr (.inr (.inr (.inr f_18))))), (q_3, .inl (cA_3, 32, .inr (.inr (.inr (.inr f_31)))))] ++ zW K V) ++ [(q_34, .inr (8, [.int 0, .null, .int 0, .int 0, .int 0, .null, .null, .null, .null, .null, .null, .null, .null, .null]))]) := hD
                    refine W.widen (k := 207) (n := 3997) (by omega) (by omega) ?_
                    refine lv_dup hx hb dX11_init_73 rfl ?_
                    refine lv_iconst (v := (-1)) hx hb dX11_init_74 (by decide) ?_
                    refine ccall (As := [.int (-1)]) (rest := [.ref q_34, .int 3, .ref q_3]) (k := 8) (X := [(h0, .inr (10, [.ref q_1, .ref q_2, .ref q_3, .null, .null, .null, .null, .null, .null])), (q_1, .inl (cA_1, 6, .inr (.inr (.inr (.inr (fun _ => none)))))), (q_2, .inl (cA_2, 4, .inr (.inr (.inr (.inr f_18))))), (q_3, .inl (cA_3, 32, .inr (.inr (.inr (.inr f_31)))))]) C (c_Table_init l D q_34 H.size (-1)) (by decide) mc_X9_init (zt_t1 30 rfl rfl) ⟨Nat.le_of_ble_eq_true rfl, Nat.le_of_ble_eq_true rfl⟩ ⟨Nat.le_of_ble_eq_true rfl, Nat.le_of_ble_eq_true rfl⟩ hl.1 (Nat.le_of_ble_eq_true rfl) dX11_init_75 hC hP hD hS hA hAr hK hE (fun K V H locs hC hP hD hS hAr hle hq => ?_)
                    have hz := hz.add hle hq
                    have hr_q_2 := hr_q_2.le hle
                    have hr_q_3 := hr_q_3.le hle
                    clear hle hq
                    refine W.widen (k := 235) (n := 4546) (by omega) (by omega) ?_
                    have hv := hz.get 0 rfl
                    obtain ⟨i_35, hi⟩ := cat (X := [(h0, .inr (10, [.ref q_1, .ref q_2, .ref q_3, .null, .null, .null, .null, .null, .null])), (q_1, .inl (cA_1, 6, .inr (.inr (.inr (.inr (fun _ => none)))))), (q_2, .inl (cA_2, 4, .inr (.inr (.inr (.inr f_18))))), (q_3, .inl (cA_3, 32, .inr (.inr (.inr (.inr f_31)))))]) (V := V) hv
                    rw [zF_8 hv.2.1] at hi
                    refine va_astq hx hb hK hP hD hS 3 2 i_35 8 rfl rfl hi rfl (by unfold vp_in; decide +kernel) dX11_init_78 (fun H locs hP hD hS => ?_)
                    have hP : va_P D vwCl ([(h0, .inr (10, [.ref q_1, .ref q_2, .ref q_3, .null, .null, .null, .null, .null, .null])), (q_1, .inl (cA_1, 6, .inr (.inr (.inr (.inr (fun _ => none)))))), (q_2, .inl (cA_2, 4, .inr (.inr (.inr (.inr f_18))))), (q_3, .inl (cA_3, 32, .inr (.inr (.inr (.inr (va_up f_31 3 (some q_34)))))))] ++ zW K V) H := hP
                    have hD : va_D A ([(h0, .inr (10, [.ref q_1, .ref q_2, .ref q_3, .null, .null, .null, .null, .null, .null])), (q_1, .inl (cA_1, 6, .inr (.inr (.inr (.inr (fun _ => none)))))), (q_2, .inl (cA_2, 4, .inr (.inr (.inr (.inr f_18))))), (q_3, .inl (cA_3, 32, .inr (.inr (.inr (.inr (va_up f_31 3 (some q_34)))))))] ++ zW K V) := hD
                    have hr_q_3 := hr_q_3.push hv
                    generalize va_up f_31 3 (some q_34) = f_35 at hP hD hr_q_3
                    clear hv hi
                    have hz : zats K [] := fun q h => hz q (List.mem_cons_of_mem _ h)
                    refine lv_iinc (v := 4) (lv' := [(1, .int 4), (0, .ref h0)]) hx hb dX11_init_79 hl (k := 0) rfl (by decide) (by decide) rfl (fun ls hl => ?_)
                    refine lv_goto (tgt := 59) hx hb dX11_init_82 (by decide) ?_
                    refine lv_iload_n hx hb dX11_init_59 rfl (lv_at hl 0 rfl) ?_
                    refine lv_bipush (v := 32) hx hb dX11_init_60 (by decide) ?_
                    refine lv_icmp_ge (tgt := 85) hx hb dX11_init_62 (by decide) (fun c_37 => ?_) (fun c_37 => ?_)
                    · exact absurd c_37 (by decide +kernel)
                    · skip
                      refine lv_aload_n hx hb dX11_init_65 rfl (lv_at hl 1 rfl) ?_
                      refine va_get (D := D) (ci := 10) (v := .ref q_3) (C := RX11) (T := TX11) (N := 9) hx hb hts in_10 hown hK hP 0 rfl rfl 2 (by decide) (hts (.fieldLink RX11 21 "CardTables" "kept" "[LCardTables$Table;") (zt_t2 59 rfl rfl)) (fun _ h9 => h9) rfl dX11_init_66 ?_
                      refine lv_iload_n hx hb dX11_init_69 rfl (lv_at hl 0 rfl) ?_
                      refine va_new (ci := 8) (fs := [.int 0, .null, .int 0, .int 0, .int 0, .null, .null, .null, .null, .null, .null, .null, .null, .null]) (C := RX9) (T := TX9) (N := 14) hx hb hts in_8 tyX9 tyX9_ok hown (hts (.classLink RX11 15 RX9) (zt_t1 27 rfl rfl)) (hts (.instantiable RX9 14) (zt_t1 29 rfl rfl)) (hts (.initialized RX9) (zt_t1 2 rfl rfl)) hK hP hD hS hA rfl (fun j hj => by rcases (show j = 0 ∨ j = 1 ∨ j = 2 ∨ j = 3 ∨ j = 4 ∨ j = 5 ∨ j = 6 ∨ j = 7 ∨ j = 8 ∨ j = 9 ∨ j = 10 ∨ j = 11 ∨ j = 12 ∨ j = 13 by omega) with rfl | rfl | rfl | rfl | rfl | rfl | rfl | rfl | rfl | rfl | rfl | rfl | rfl | rfl <;> rfl) (Nat.le_of_ble_eq_true rfl) (Nat.le_of_ble_eq_true rfl) dX11_init_70 (fun q_38 H hP hD hS => ?_)
                      have hP : va_P D vwCl (([(h0, .inr (10, [.ref q_1, .ref q_2, .ref q_3, .null, .null, .null, .null, .null, .null])), (q_1, .inl (cA_1, 6, .inr (.inr (.inr (.inr (fun _ => none)))))), (q_2, .inl (cA_2, 4, .inr (.inr (.inr (.inr f_18))))), (q_3, .inl (cA_3, 32, .inr (.inr (.inr (.inr f_35)))))] ++ zW K V) ++ [(q_38, .inr (8, [.int 0, .null, .int 0, .int 0, .int 0, .null, .null, .null, .null, .null, .null, .null, .null, .null]))]) H := hP
                      have hD : va_D A (([(h0, .inr (10, [.ref q_1, .ref q_2, .ref q_3, .null, .null, .null, .null, .null, .null])), (q_1, .inl (cA_1, 6, .inr (.inr (.inr (.inr (fun _ => none)))))), (q_2, .inl (cA_2, 4, .inr (.inr (.inr (.inr f_18))))), (q_3, .inl (cA_3, 32, .inr (.inr (.inr (.inr f_35)))))] ++ zW K V) ++ [(q_38, .inr (8, [.int 0, .null, .int 0, .int 0, .int 0, .null, .null, .null, .null, .null, .null, .null, .null, .null]))]) := hD
                      refine W.widen (k := 236) (n := 4560) (by omega) (by omega) ?_
                      refine lv_dup hx hb dX11_init_73 rfl ?_
                      refine lv_iconst (v := (-1)) hx hb dX11_init_74 (by decide) ?_
                      refine ccall (As := [.int (-1)]) (rest := [.ref q_38, .int 4, .ref q_3]) (k := 8) (X := [(h0, .inr (10, [.ref q_1, .ref q_2, .ref q_3, .null, .null, .null, .null, .null, .null])), (q_1, .inl (cA_1, 6, .inr (.inr (.inr (.inr (fun _ => none)))))), (q_2, .inl (cA_2, 4, .inr (.inr (.inr (.inr f_18))))), (q_3, .inl (cA_3, 32, .inr (.inr (.inr (.inr f_35)))))]) C (c_Table_init l D q_38 H.size (-1)) (by decide) mc_X9_init (zt_t1 30 rfl rfl) ⟨Nat.le_of_ble_eq_true rfl, Nat.le_of_ble_eq_true rfl⟩ ⟨Nat.le_of_ble_eq_true rfl, Nat.le_of_ble_eq_true rfl⟩ hl.1 (Nat.le_of_ble_eq_true rfl) dX11_init_75 hC hP hD hS hA hAr hK hE (fun K V H locs hC hP hD hS hAr hle hq => ?_)
                      have hz := hz.add hle hq
                      have hr_q_2 := hr_q_2.le hle
                      have hr_q_3 := hr_q_3.le hle
                      clear hle hq
                      refine W.widen (k := 264) (n := 5109) (by omega) (by omega) ?_
                      have hv := hz.get 0 rfl
                      obtain ⟨i_39, hi⟩ := cat (X := [(h0, .inr (10, [.ref q_1, .ref q_2, .ref q_3, .null, .null, .null, .null, .null, .null])), (q_1, .inl (cA_1, 6, .inr (.inr (.inr (.inr (fun _ => none)))))), (q_2, .inl (cA_2, 4, .inr (.inr (.inr (.inr f_18))))), (q_3, .inl (cA_3, 32, .inr (.inr (.inr (.inr f_35)))))]) (V := V) hv
                      rw [zF_8 hv.2.1] at hi
                      refine va_astq hx hb hK hP hD hS 3 2 i_39 8 rfl rfl hi rfl (by unfold vp_in; decide +kernel) dX11_init_78 (fun H locs hP hD hS => ?_)
                      have hP : va_P D vwCl ([(h0, .inr (10, [.ref q_1, .ref q_2, .ref q_3, .null, .null, .null, .null, .null, .null])), (q_1, .inl (cA_1, 6, .inr (.inr (.inr (.inr (fun _ => none)))))), (q_2, .inl (cA_2, 4, .inr (.inr (.inr (.inr f_18))))), (q_3, .inl (cA_3, 32, .inr (.inr (.inr (.inr (va_up f_35 4 (some q_38)))))))] ++ zW K V) H := hP
                      have hD : va_D A ([(h0, .inr (10, [.ref q_1, .ref q_2, .ref q_3, .null, .null, .null, .null, .null, .null])), (q_1, .inl (cA_1, 6, .inr (.inr (.inr (.inr (fun _ => none)))))), (q_2, .inl (cA_2, 4, .inr (.inr (.inr (.inr f_18))))), (q_3, .inl (cA_3, 32, .inr (.inr (.inr (.inr (va_up f_35 4 (some q_38)))))))] ++ zW K V) := hD
                      have hr_q_3 := hr_q_3.push hv
                      generalize va_up f_35 4 (some q_38) = f_39 at hP hD hr_q_3
                      clear hv hi
                      have hz : zats K [] := fun q h => hz q (List.mem_cons_of_mem _ h)
                      refine lv_iinc (v := 5) (lv' := [(1, .int 5), (0, .ref h0)]) hx hb dX11_init_79 hl (k := 0) rfl (by decide) (by decide) rfl (fun ls hl => ?_)
                      refine lv_goto (tgt := 59) hx hb dX11_init_82 (by decide) ?_
                      refine lv_iload_n hx hb dX11_init_59 rfl (lv_at hl 0 rfl) ?_
                      refine lv_bipush (v := 32) hx hb dX11_init_60 (by decide) ?_
                      refine lv_icmp_ge (tgt := 85) hx hb dX11_init_62 (by decide) (fun c_41 => ?_) (fun c_41 => ?_)
                      · exact absurd c_41 (by decide +kernel)
                      · skip
                        refine lv_aload_n hx hb dX11_init_65 rfl (lv_at hl 1 rfl) ?_
                        refine va_get (D := D) (ci := 10) (v := .ref q_3) (C := RX11) (T := TX11) (N := 9) hx hb hts in_10 hown hK hP 0 rfl rfl 2 (by decide) (hts (.fieldLink RX11 21 "CardTables" "kept" "[LCardTables$Table;") (zt_t2 59 rfl rfl)) (fun _ h9 => h9) rfl dX11_init_66 ?_
                        refine lv_iload_n hx hb dX11_init_69 rfl (lv_at hl 0 rfl) ?_
                        refine va_new (ci := 8) (fs := [.int 0, .null, .int 0, .int 0, .int 0, .null, .null, .null, .null, .null, .null, .null, .null, .null]) (C := RX9) (T := TX9) (N := 14) hx hb hts in_8 tyX9 tyX9_ok hown (hts (.classLink RX11 15 RX9) (zt_t1 27 rfl rfl)) (hts (.instantiable RX9 14) (zt_t1 29 rfl rfl)) (hts (.initialized RX9) (zt_t1 2 rfl rfl)) hK hP hD hS hA rfl (fun j hj => by rcases (show j = 0 ∨ j = 1 ∨ j = 2 ∨ j = 3 ∨ j = 4 ∨ j = 5 ∨ j = 6 ∨ j = 7 ∨ j = 8 ∨ j = 9 ∨ j = 10 ∨ j = 11 ∨ j = 12 ∨ j = 13 by omega) with rfl | rfl | rfl | rfl | rfl | rfl | rfl | rfl | rfl | rfl | rfl | rfl | rfl | rfl <;> rfl) (Nat.le_of_ble_eq_true rfl) (Nat.le_of_ble_eq_true rfl) dX11_init_70 (fun q_42 H hP hD hS => ?_)
                        have hP : va_P D vwCl (([(h0, .inr (10, [.ref q_1, .ref q_2, .ref q_3, .null, .null, .null, .null, .null, .null])), (q_1, .inl (cA_1, 6, .inr (.inr (.inr (.inr (fun _ => none)))))), (q_2, .inl (cA_2, 4, .inr (.inr (.inr (.inr f_18))))), (q_3, .inl (cA_3, 32, .inr (.inr (.inr (.inr f_39)))))] ++ zW K V) ++ [(q_42, .inr (8, [.int 0, .null, .int 0, .int 0, .int 0, .null, .null, .null, .null, .null, .null, .null, .null, .null]))]) H := hP
                        have hD : va_D A (([(h0, .inr (10, [.ref q_1, .ref q_2, .ref q_3, .null, .null, .null, .null, .null, .null])), (q_1, .inl (cA_1, 6, .inr (.inr (.inr (.inr (fun _ => none)))))), (q_2, .inl (cA_2, 4, .inr (.inr (.inr (.inr f_18))))), (q_3, .inl (cA_3, 32, .inr (.inr (.inr (.inr f_39)))))] ++ zW K V) ++ [(q_42, .inr (8, [.int 0, .null, .int 0, .int 0, .int 0, .null, .null, .null, .null, .null, .null, .null, .null, .null]))]) := hD
                        refine W.widen (k := 265) (n := 5123) (by omega) (by omega) ?_
                        refine lv_dup hx hb dX11_init_73 rfl ?_
                        refine lv_iconst (v := (-1)) hx hb dX11_init_74 (by decide) ?_
                        refine ccall (As := [.int (-1)]) (rest := [.ref q_42, .int 5, .ref q_3]) (k := 8) (X := [(h0, .inr (10, [.ref q_1, .ref q_2, .ref q_3, .null, .null, .null, .null, .null, .null])), (q_1, .inl (cA_1, 6, .inr (.inr (.inr (.inr (fun _ => none)))))), (q_2, .inl (cA_2, 4, .inr (.inr (.inr (.inr f_18))))), (q_3, .inl (cA_3, 32, .inr (.inr (.inr (.inr f_39)))))]) C (c_Table_init l D q_42 H.size (-1)) (by decide) mc_X9_init (zt_t1 30 rfl rfl) ⟨Nat.le_of_ble_eq_true rfl, Nat.le_of_ble_eq_true rfl⟩ ⟨Nat.le_of_ble_eq_true rfl, Nat.le_of_ble_eq_true rfl⟩ hl.1 (Nat.le_of_ble_eq_true rfl) dX11_init_75 hC hP hD hS hA hAr hK hE (fun K V H locs hC hP hD hS hAr hle hq => ?_)
                        have hz := hz.add hle hq
                        have hr_q_2 := hr_q_2.le hle
                        have hr_q_3 := hr_q_3.le hle
                        clear hle hq
                        refine W.widen (k := 293) (n := 5672) (by omega) (by omega) ?_
                        have hv := hz.get 0 rfl
                        obtain ⟨i_43, hi⟩ := cat (X := [(h0, .inr (10, [.ref q_1, .ref q_2, .ref q_3, .null, .null, .null, .null, .null, .null])), (q_1, .inl (cA_1, 6, .inr (.inr (.inr (.inr (fun _ => none)))))), (q_2, .inl (cA_2, 4, .inr (.inr (.inr (.inr f_18))))), (q_3, .inl (cA_3, 32, .inr (.inr (.inr (.inr f_39)))))]) (V := V) hv
                        rw [zF_8 hv.2.1] at hi
                        refine va_astq hx hb hK hP hD hS 3 2 i_43 8 rfl rfl hi rfl (by unfold vp_in; decide +kernel) dX11_init_78 (fun H locs hP hD hS => ?_)
                        have hP : va_P D vwCl ([(h0, .inr (10, [.ref q_1, .ref q_2, .ref q_3, .null, .null, .null, .null, .null, .null])), (q_1, .inl (cA_1, 6, .inr (.inr (.inr (.inr (fun _ => none)))))), (q_2, .inl (cA_2, 4, .inr (.inr (.inr (.inr f_18))))), (q_3, .inl (cA_3, 32, .inr (.inr (.inr (.inr (va_up f_39 5 (some q_42)))))))] ++ zW K V) H := hP
                        have hD : va_D A ([(h0, .inr (10, [.ref q_1, .ref q_2, .ref q_3, .null, .null, .null, .null, .null, .null])), (q_1, .inl (cA_1, 6, .inr (.inr (.inr (.inr (fun _ => none)))))), (q_2, .inl (cA_2, 4, .inr (.inr (.inr (.inr f_18))))), (q_3, .inl (cA_3, 32, .inr (.inr (.inr (.inr (va_up f_39 5 (some q_42)))))))] ++ zW K V) := hD
                        have hr_q_3 := hr_q_3.push hv
                        generalize va_up f_39 5 (some q_42) = f_43 at hP hD hr_q_3
                        clear hv hi
                        have hz : zats K [] := fun q h => hz q (List.mem_cons_of_mem _ h)
                        refine lv_iinc (v := 6) (lv' := [(1, .int 6), (0, .ref h0)]) hx hb dX11_init_79 hl (k := 0) rfl (by decide) (by decide) rfl (fun ls hl => ?_)
                        refine lv_goto (tgt := 59) hx hb dX11_init_82 (by decide) ?_
                        refine lv_iload_n hx hb dX11_init_59 rfl (lv_at hl 0 rfl) ?_
                        refine lv_bipush (v := 32) hx hb dX11_init_60 (by decide) ?_
                        refine lv_icmp_ge (tgt := 85) hx hb dX11_init_62 (by decide) (fun c_45 => ?_) (fun c_45 => ?_)
                        · exact absurd c_45 (by decide +kernel)
                        · skip
                          refine lv_aload_n hx hb dX11_init_65 rfl (lv_at hl 1 rfl) ?_
                          refine va_get (D := D) (ci := 10) (v := .ref q_3) (C := RX11) (T := TX11) (N := 9) hx hb hts in_10 hown hK hP 0 rfl rfl 2 (by decide) (hts (.fieldLink RX11 21 "CardTables" "kept" "[LCardTables$Table;") (zt_t2 59 rfl rfl)) (fun _ h9 => h9) rfl dX11_init_66 ?_
                          refine lv_iload_n hx hb dX11_init_69 rfl (lv_at hl 0 rfl) ?_
                          refine va_new (ci := 8) (fs := [.int 0, .null, .int 0, .int 0, .int 0, .null, .null, .null, .null, .null, .null, .null, .null, .null]) (C := RX9) (T := TX9) (N := 14) hx hb hts in_8 tyX9 tyX9_ok hown (hts (.classLink RX11 15 RX9) (zt_t1 27 rfl rfl)) (hts (.instantiable RX9 14) (zt_t1 29 rfl rfl)) (hts (.initialized RX9) (zt_t1 2 rfl rfl)) hK hP hD hS hA rfl (fun j hj => by rcases (show j = 0 ∨ j = 1 ∨ j = 2 ∨ j = 3 ∨ j = 4 ∨ j = 5 ∨ j = 6 ∨ j = 7 ∨ j = 8 ∨ j = 9 ∨ j = 10 ∨ j = 11 ∨ j = 12 ∨ j = 13 by omega) with rfl | rfl | rfl | rfl | rfl | rfl | rfl | rfl | rfl | rfl | rfl | rfl | rfl | rfl <;> rfl) (Nat.le_of_ble_eq_true rfl) (Nat.le_of_ble_eq_true rfl) dX11_init_70 (fun q_46 H hP hD hS => ?_)
                          have hP : va_P D vwCl (([(h0, .inr (10, [.ref q_1, .ref q_2, .ref q_3, .null, .null, .null, .null, .null, .null])), (q_1, .inl (cA_1, 6, .inr (.inr (.inr (.inr (fun _ => none)))))), (q_2, .inl (cA_2, 4, .inr (.inr (.inr (.inr f_18))))), (q_3, .inl (cA_3, 32, .inr (.inr (.inr (.inr f_43)))))] ++ zW K V) ++ [(q_46, .inr (8, [.int 0, .null, .int 0, .int 0, .int 0, .null, .null, .null, .null, .null, .null, .null, .null, .null]))]) H := hP
                          have hD : va_D A (([(h0, .inr (10, [.ref q_1, .ref q_2, .ref q_3, .null, .null, .null, .null, .null, .null])), (q_1, .inl (cA_1, 6, .inr (.inr (.inr (.inr (fun _ => none)))))), (q_2, .inl (cA_2, 4, .inr (.inr (.inr (.inr f_18))))), (q_3, .inl (cA_3, 32, .inr (.inr (.inr (.inr f_43)))))] ++ zW K V) ++ [(q_46, .inr (8, [.int 0, .null, .int 0, .int 0, .int 0, .null, .null, .null, .null, .null, .null, .null, .null, .null]))]) := hD
                          refine W.widen (k := 294) (n := 5686) (by omega) (by omega) ?_
                          refine lv_dup hx hb dX11_init_73 rfl ?_
                          refine lv_iconst (v := (-1)) hx hb dX11_init_74 (by decide) ?_
                          refine ccall (As := [.int (-1)]) (rest := [.ref q_46, .int 6, .ref q_3]) (k := 8) (X := [(h0, .inr (10, [.ref q_1, .ref q_2, .ref q_3, .null, .null, .null, .null, .null, .null])), (q_1, .inl (cA_1, 6, .inr (.inr (.inr (.inr (fun _ => none)))))), (q_2, .inl (cA_2, 4, .inr (.inr (.inr (.inr f_18))))), (q_3, .inl (cA_3, 32, .inr (.inr (.inr (.inr f_43)))))]) C (c_Table_init l D q_46 H.size (-1)) (by decide) mc_X9_init (zt_t1 30 rfl rfl) ⟨Nat.le_of_ble_eq_true rfl, Nat.le_of_ble_eq_true rfl⟩ ⟨Nat.le_of_ble_eq_true rfl, Nat.le_of_ble_eq_true rfl⟩ hl.1 (Nat.le_of_ble_eq_true rfl) dX11_init_75 hC hP hD hS hA hAr hK hE (fun K V H locs hC hP hD hS hAr hle hq => ?_)
                          have hz := hz.add hle hq
                          have hr_q_2 := hr_q_2.le hle
                          have hr_q_3 := hr_q_3.le hle
                          clear hle hq
                          refine W.widen (k := 322) (n := 6235) (by omega) (by omega) ?_
                          have hv := hz.get 0 rfl
                          obtain ⟨i_47, hi⟩ := cat (X := [(h0, .inr (10, [.ref q_1, .ref q_2, .ref q_3, .null, .null, .null, .null, .null, .null])), (q_1, .inl (cA_1, 6, .inr (.inr (.inr (.inr (fun _ => none)))))), (q_2, .inl (cA_2, 4, .inr (.inr (.inr (.inr f_18))))), (q_3, .inl (cA_3, 32, .inr (.inr (.inr (.inr f_43)))))]) (V := V) hv
                          rw [zF_8 hv.2.1] at hi
                          refine va_astq hx hb hK hP hD hS 3 2 i_47 8 rfl rfl hi rfl (by unfold vp_in; decide +kernel) dX11_init_78 (fun H locs hP hD hS => ?_)
                          have hP : va_P D vwCl ([(h0, .inr (10, [.ref q_1, .ref q_2, .ref q_3, .null, .null, .null, .null, .null, .null])), (q_1, .inl (cA_1, 6, .inr (.inr (.inr (.inr (fun _ => none)))))), (q_2, .inl (cA_2, 4, .inr (.inr (.inr (.inr f_18))))), (q_3, .inl (cA_3, 32, .inr (.inr (.inr (.inr (va_up f_43 6 (some q_46)))))))] ++ zW K V) H := hP
                          have hD : va_D A ([(h0, .inr (10, [.ref q_1, .ref q_2, .ref q_3, .null, .null, .null, .null, .null, .null])), (q_1, .inl (cA_1, 6, .inr (.inr (.inr (.inr (fun _ => none)))))), (q_2, .inl (cA_2, 4, .inr (.inr (.inr (.inr f_18))))), (q_3, .inl (cA_3, 32, .inr (.inr (.inr (.inr (va_up f_43 6 (some q_46)))))))] ++ zW K V) := hD
                          have hr_q_3 := hr_q_3.push hv
                          generalize va_up f_43 6 (some q_46) = f_47 at hP hD hr_q_3
                          clear hv hi
                          have hz : zats K [] := fun q h => hz q (List.mem_cons_of_mem _ h)
                          refine lv_iinc (v := 7) (lv' := [(1, .int 7), (0, .ref h0)]) hx hb dX11_init_79 hl (k := 0) rfl (by decide) (by decide) rfl (fun ls hl => ?_)
                          refine lv_goto (tgt := 59) hx hb dX11_init_82 (by decide) ?_
                          refine lv_iload_n hx hb dX11_init_59 rfl (lv_at hl 0 rfl) ?_
                          refine lv_bipush (v := 32) hx hb dX11_init_60 (by decide) ?_
                          refine lv_icmp_ge (tgt := 85) hx hb dX11_init_62 (by decide) (fun c_49 => ?_) (fun c_49 => ?_)
                          · exact absurd c_49 (by decide +kernel)
                          · skip
                            refine lv_aload_n hx hb dX11_init_65 rfl (lv_at hl 1 rfl) ?_
                            refine va_get (D := D) (ci := 10) (v := .ref q_3) (C := RX11) (T := TX11) (N := 9) hx hb hts in_10 hown hK hP 0 rfl rfl 2 (by decide) (hts (.fieldLink RX11 21 "CardTables" "kept" "[LCardTables$Table;") (zt_t2 59 rfl rfl)) (fun _ h9 => h9) rfl dX11_init_66 ?_
                            refine lv_iload_n hx hb dX11_init_69 rfl (lv_at hl 0 rfl) ?_
                            refine va_new (ci := 8) (fs := [.int 0, .null, .int 0, .int 0, .int 0, .null, .null, .null, .null, .null, .null, .null, .null, .null]) (C := RX9) (T := TX9) (N := 14) hx hb hts in_8 tyX9 tyX9_ok hown (hts (.classLink RX11 15 RX9) (zt_t1 27 rfl rfl)) (hts (.instantiable RX9 14) (zt_t1 29 rfl rfl)) (hts (.initialized RX9) (zt_t1 2 rfl rfl)) hK hP hD hS hA rfl (fun j hj => by rcases (show j = 0 ∨ j = 1 ∨ j = 2 ∨ j = 3 ∨ j = 4 ∨ j = 5 ∨ j = 6 ∨ j = 7 ∨ j = 8 ∨ j = 9 ∨ j = 10 ∨ j = 11 ∨ j = 12 ∨ j = 13 by omega) with rfl | rfl | rfl | rfl | rfl | rfl | rfl | rfl | rfl | rfl | rfl | rfl | rfl | rfl <;> rfl) (Nat.le_of_ble_eq_true rfl) (Nat.le_of_ble_eq_true rfl) dX11_init_70 (fun q_50 H hP hD hS => ?_)
                            have hP : va_P D vwCl (([(h0, .inr (10, [.ref q_1, .ref q_2, .ref q_3, .null, .null, .null, .null, .null, .null])), (q_1, .inl (cA_1, 6, .inr (.inr (.inr (.inr (fun _ => none)))))), (q_2, .inl (cA_2, 4, .inr (.inr (.inr (.inr f_18))))), (q_3, .inl (cA_3, 32, .inr (.inr (.inr (.inr f_47)))))] ++ zW K V) ++ [(q_50, .inr (8, [.int 0, .null, .int 0, .int 0, .int 0, .null, .null, .null, .null, .null, .null, .null, .null, .null]))]) H := hP
                            have hD : va_D A (([(h0, .inr (10, [.ref q_1, .ref q_2, .ref q_3, .null, .null, .null, .null, .null, .null])), (q_1, .inl (cA_1, 6, .inr (.inr (.inr (.inr (fun _ => none)))))), (q_2, .inl (cA_2, 4, .inr (.inr (.inr (.inr f_18))))), (q_3, .inl (cA_3, 32, .inr (.inr (.inr (.inr f_47)))))] ++ zW K V) ++ [(q_50, .inr (8, [.int 0, .null, .int 0, .int 0, .int 0, .null, .null, .null, .null, .null, .null, .null, .null, .null]))]) := hD
                            refine W.widen (k := 323) (n := 6249) (by omega) (by omega) ?_
                            refine lv_dup hx hb dX11_init_73 rfl ?_
                            refine lv_iconst (v := (-1)) hx hb dX11_init_74 (by decide) ?_
                            refine ccall (As := [.int (-1)]) (rest := [.ref q_50, .int 7, .ref q_3]) (k := 8) (X := [(h0, .inr (10, [.ref q_1, .ref q_2, .ref q_3, .null, .null, .null, .null, .null, .null])), (q_1, .inl (cA_1, 6, .inr (.inr (.inr (.inr (fun _ => none)))))), (q_2, .inl (cA_2, 4, .inr (.inr (.inr (.inr f_18))))), (q_3, .inl (cA_3, 32, .inr (.inr (.inr (.inr f_47)))))]) C (c_Table_init l D q_50 H.size (-1)) (by decide) mc_X9_init (zt_t1 30 rfl rfl) ⟨Nat.le_of_ble_eq_true rfl, Nat.le_of_ble_eq_true rfl⟩ ⟨Nat.le_of_ble_eq_true rfl, Nat.le_of_ble_eq_true rfl⟩ hl.1 (Nat.le_of_ble_eq_true rfl) dX11_init_75 hC hP hD hS hA hAr hK hE (fun K V H locs hC hP hD hS hAr hle hq => ?_)
                            have hz := hz.add hle hq
                            have hr_q_2 := hr_q_2.le hle
                            have hr_q_3 := hr_q_3.le hle
                            clear hle hq
                            refine W.widen (k := 351) (n := 6798) (by omega) (by omega) ?_
                            have hv := hz.get 0 rfl
                            obtain ⟨i_51, hi⟩ := cat (X := [(h0, .inr (10, [.ref q_1, .ref q_2, .ref q_3, .null, .null, .null, .null, .null, .null])), (q_1, .inl (cA_1, 6, .inr (.inr (.inr (.inr (fun _ => none)))))), (q_2, .inl (cA_2, 4, .inr (.inr (.inr (.inr f_18))))), (q_3, .inl (cA_3, 32, .inr (.inr (.inr (.inr f_47)))))]) (V := V) hv
                            rw [zF_8 hv.2.1] at hi
                            refine va_astq hx hb hK hP hD hS 3 2 i_51 8 rfl rfl hi rfl (by unfold vp_in; decide +kernel) dX11_init_78 (fun H locs hP hD hS => ?_)
                            have hP : va_P D vwCl ([(h0, .inr (10, [.ref q_1, .ref q_2, .ref q_3, .null, .null, .null, .null, .null, .null])), (q_1, .inl (cA_1, 6, .inr (.inr (.inr (.inr (fun _ => none)))))), (q_2, .inl (cA_2, 4, .inr (.inr (.inr (.inr f_18))))), (q_3, .inl (cA_3, 32, .inr (.inr (.inr (.inr (va_up f_47 7 (some q_50)))))))] ++ zW K V) H := hP
                            have hD : va_D A ([(h0, .inr (10, [.ref q_1, .ref q_2, .ref q_3, .null, .null, .null, .null, .null, .null])), (q_1, .inl (cA_1, 6, .inr (.inr (.inr (.inr (fun _ => none)))))), (q_2, .inl (cA_2, 4, .inr (.inr (.inr (.inr f_18))))), (q_3, .inl (cA_3, 32, .inr (.inr (.inr (.inr (va_up f_47 7 (some q_50)))))))] ++ zW K V) := hD
                            have hr_q_3 := hr_q_3.push hv
                            generalize va_up f_47 7 (some q_50) = f_51 at hP hD hr_q_3
                            clear hv hi
                            have hz : zats K [] := fun q h => hz q (List.mem_cons_of_mem _ h)
                            refine lv_iinc (v := 8) (lv' := [(1, .int 8), (0, .ref h0)]) hx hb dX11_init_79 hl (k := 0) rfl (by decide) (by decide) rfl (fun ls hl => ?_)
                            refine lv_goto (tgt := 59) hx hb dX11_init_82 (by decide) ?_
                            refine lv_iload_n hx hb dX11_init_59 rfl (lv_at hl 0 rfl) ?_
                            refine lv_bipush (v := 32) hx hb dX11_init_60 (by decide) ?_
                            refine lv_icmp_ge (tgt := 85) hx hb dX11_init_62 (by decide) (fun c_53 => ?_) (fun c_53 => ?_)
                            · exact absurd c_53 (by decide +kernel)
                            · skip
                              refine lv_aload_n hx hb dX11_init_65 rfl (lv_at hl 1 rfl) ?_
                              refine va_get (D := D) (ci := 10) (v := .ref q_3) (C := RX11) (T := TX11) (N := 9) hx hb hts in_10 hown hK hP 0 rfl rfl 2 (by decide) (hts (.fieldLink RX11 21 "CardTables" "kept" "[LCardTables$Table;") (zt_t2 59 rfl rfl)) (fun _ h9 => h9) rfl dX11_init_66 ?_
                              refine lv_iload_n hx hb dX11_init_69 rfl (lv_at hl 0 rfl) ?_
                              refine va_new (ci := 8) (fs := [.int 0, .null, .int 0, .int 0, .int 0, .null, .null, .null, .null, .null, .null, .null, .null, .null]) (C := RX9) (T := TX9) (N := 14) hx hb hts in_8 tyX9 tyX9_ok hown (hts (.classLink RX11 15 RX9) (zt_t1 27 rfl rfl)) (hts (.instantiable RX9 14) (zt_t1 29 rfl rfl)) (hts (.initialized RX9) (zt_t1 2 rfl rfl)) hK hP hD hS hA rfl (fun j hj => by rcases (show j = 0 ∨ j = 1 ∨ j = 2 ∨ j = 3 ∨ j = 4 ∨ j = 5 ∨ j = 6 ∨ j = 7 ∨ j = 8 ∨ j = 9 ∨ j = 10 ∨ j = 11 ∨ j = 12 ∨ j = 13 by omega) with rfl | rfl | rfl | rfl | rfl | rfl | rfl | rfl | rfl | rfl | rfl | rfl | rfl | rfl <;> rfl) (Nat.le_of_ble_eq_true rfl) (Nat.le_of_ble_eq_true rfl) dX11_init_70 (fun q_54 H hP hD hS => ?_)
                              have hP : va_P D vwCl (([(h0, .inr (10, [.ref q_1, .ref q_2, .ref q_3, .null, .null, .null, .null, .null, .null])), (q_1, .inl (cA_1, 6, .inr (.inr (.inr (.inr (fun _ => none)))))), (q_2, .inl (cA_2, 4, .inr (.inr (.inr (.inr f_18))))), (q_3, .inl (cA_3, 32, .inr (.inr (.inr (.inr f_51)))))] ++ zW K V) ++ [(q_54, .inr (8, [.int 0, .null, .int 0, .int 0, .int 0, .null, .null, .null, .null, .null, .null, .null, .null, .null]))]) H := hP
                              have hD : va_D A (([(h0, .inr (10, [.ref q_1, .ref q_2, .ref q_3, .null, .null, .null, .null, .null, .null])), (q_1, .inl (cA_1, 6, .inr (.inr (.inr (.inr (fun _ => none)))))), (q_2, .inl (cA_2, 4, .inr (.inr (.inr (.inr f_18))))), (q_3, .inl (cA_3, 32, .inr (.inr (.inr (.inr f_51)))))] ++ zW K V) ++ [(q_54, .inr (8, [.int 0, .null, .int 0, .int 0, .int 0, .null, .null, .null, .null, .null, .null, .null, .null, .null]))]) := hD
                              refine W.widen (k := 352) (n := 6812) (by omega) (by omega) ?_
                              refine lv_dup hx hb dX11_init_73 rfl ?_
                              refine lv_iconst (v := (-1)) hx hb dX11_init_74 (by decide) ?_
                              refine ccall (As := [.int (-1)]) (rest := [.ref q_54, .int 8, .ref q_3]) (k := 8) (X := [(h0, .inr (10, [.ref q_1, .ref q_2, .ref q_3, .null, .null, .null, .null, .null, .null])), (q_1, .inl (cA_1, 6, .inr (.inr (.inr (.inr (fun _ => none)))))), (q_2, .inl (cA_2, 4, .inr (.inr (.inr (.inr f_18))))), (q_3, .inl (cA_3, 32, .inr (.inr (.inr (.inr f_51)))))]) C (c_Table_init l D q_54 H.size (-1)) (by decide) mc_X9_init (zt_t1 30 rfl rfl) ⟨Nat.le_of_ble_eq_true rfl, Nat.le_of_ble_eq_true rfl⟩ ⟨Nat.le_of_ble_eq_true rfl, Nat.le_of_ble_eq_true rfl⟩ hl.1 (Nat.le_of_ble_eq_true rfl) dX11_init_75 hC hP hD hS hA hAr hK hE (fun K V H locs hC hP hD hS hAr hle hq => ?_)
                              have hz := hz.add hle hq
                              have hr_q_2 := hr_q_2.le hle
                              have hr_q_3 := hr_q_3.le hle
                              clear hle hq
                              refine W.widen (k := 380) (n := 7361) (by omega) (by omega) ?_
                              have hv := hz.get 0 rfl
                              obtain ⟨i_55, hi⟩ := cat (X := [(h0, .inr (10, [.ref q_1, .ref q_2, .ref q_3, .null, .null, .null, .null, .null, .null])), (q_1, .inl (cA_1, 6, .inr (.inr (.inr (.inr (fun _ => none)))))), (q_2, .inl (cA_2, 4, .inr (.inr (.inr (.inr f_18))))), (q_3, .inl (cA_3, 32, .inr (.inr (.inr (.inr f_51)))))]) (V := V) hv
                              rw [zF_8 hv.2.1] at hi
                              refine va_astq hx hb hK hP hD hS 3 2 i_55 8 rfl rfl hi rfl (by unfold vp_in; decide +kernel) dX11_init_78 (fun H locs hP hD hS => ?_)
                              have hP : va_P D vwCl ([(h0, .inr (10, [.ref q_1, .ref q_2, .ref q_3, .null, .null, .null, .null, .null, .null])), (q_1, .inl (cA_1, 6, .inr (.inr (.inr (.inr (fun _ => none)))))), (q_2, .inl (cA_2, 4, .inr (.inr (.inr (.inr f_18))))), (q_3, .inl (cA_3, 32, .inr (.inr (.inr (.inr (va_up f_51 8 (some q_54)))))))] ++ zW K V) H := hP
                              have hD : va_D A ([(h0, .inr (10, [.ref q_1, .ref q_2, .ref q_3, .null, .null, .null, .null, .null, .null])), (q_1, .inl (cA_1, 6, .inr (.inr (.inr (.inr (fun _ => none)))))), (q_2, .inl (cA_2, 4, .inr (.inr (.inr (.inr f_18))))), (q_3, .inl (cA_3, 32, .inr (.inr (.inr (.inr (va_up f_51 8 (some q_54)))))))] ++ zW K V) := hD
                              have hr_q_3 := hr_q_3.push hv
                              generalize va_up f_51 8 (some q_54) = f_55 at hP hD hr_q_3
                              clear hv hi
                              have hz : zats K [] := fun q h => hz q (List.mem_cons_of_mem _ h)
                              refine lv_iinc (v := 9) (lv' := [(1, .int 9), (0, .ref h0)]) hx hb dX11_init_79 hl (k := 0) rfl (by decide) (by decide) rfl (fun ls hl => ?_)
                              refine lv_goto (tgt := 59) hx hb dX11_init_82 (by decide) ?_
                              refine lv_iload_n hx hb dX11_init_59 rfl (lv_at hl 0 rfl) ?_
                              refine lv_bipush (v := 32) hx hb dX11_init_60 (by decide) ?_
                              refine lv_icmp_ge (tgt := 85) hx hb dX11_init_62 (by decide) (fun c_57 => ?_) (fun c_57 => ?_)
                              · exact absurd c_57 (by decide +kernel)
                              · skip
                                refine lv_aload_n hx hb dX11_init_65 rfl (lv_at hl 1 rfl) ?_
                                refine va_get (D := D) (ci := 10) (v := .ref q_3) (C := RX11) (T := TX11) (N := 9) hx hb hts in_10 hown hK hP 0 rfl rfl 2 (by decide) (hts (.fieldLink RX11 21 "CardTables" "kept" "[LCardTables$Table;") (zt_t2 59 rfl rfl)) (fun _ h9 => h9) rfl dX11_init_66 ?_
                                refine lv_iload_n hx hb dX11_init_69 rfl (lv_at hl 0 rfl) ?_
                                refine va_new (ci := 8) (fs := [.int 0, .null, .int 0, .int 0, .int 0, .null, .null, .null, .null, .null, .null, .null, .null, .null]) (C := RX9) (T := TX9) (N := 14) hx hb hts in_8 tyX9 tyX9_ok hown (hts (.classLink RX11 15 RX9) (zt_t1 27 rfl rfl)) (hts (.instantiable RX9 14) (zt_t1 29 rfl rfl)) (hts (.initialized RX9) (zt_t1 2 rfl rfl)) hK hP hD hS hA rfl (fun j hj => by rcases (show j = 0 ∨ j = 1 ∨ j = 2 ∨ j = 3 ∨ j = 4 ∨ j = 5 ∨ j = 6 ∨ j = 7 ∨ j = 8 ∨ j = 9 ∨ j = 10 ∨ j = 11 ∨ j = 12 ∨ j = 13 by omega) with rfl | rfl | rfl | rfl | rfl | rfl | rfl | rfl | rfl | rfl | rfl | rfl | rfl | rfl <;> rfl) (Nat.le_of_ble_eq_true rfl) (Nat.le_of_ble_eq_true rfl) dX11_init_70 (fun q_58 H hP hD hS => ?_)
                                have hP : va_P D vwCl (([(h0, .inr (10, [.ref q_1, .ref q_2, .ref q_3, .null, .null, .null, .null, .null, .null])), (q_1, .inl (cA_1, 6, .inr (.inr (.inr (.inr (fun _ => none)))))), (q_2, .inl (cA_2, 4, .inr (.inr (.inr (.inr f_18))))), (q_3, .inl (cA_3, 32, .inr (.inr (.inr (.inr f_55)))))] ++ zW K V) ++ [(q_58, .inr (8, [.int 0, .null, .int 0, .int 0, .int 0, .null, .null, .null, .null, .null, .null, .null, .null, .null]))]) H := hP
                                have hD : va_D A (([(h0, .inr (10, [.ref q_1, .ref q_2, .ref q_3, .null, .null, .null, .null, .null, .null])), (q_1, .inl (cA_1, 6, .inr (.inr (.inr (.inr (fun _ => none)))))), (q_2, .inl (cA_2, 4, .inr (.inr (.inr (.inr f_18))))), (q_3, .inl (cA_3, 32, .inr (.inr (.inr (.inr f_55)))))] ++ zW K V) ++ [(q_58, .inr (8, [.int 0, .null, .int 0, .int 0, .int 0, .null, .null, .null, .null, .null, .null, .null, .null, .null]))]) := hD
                                refine W.widen (k := 381) (n := 7375) (by omega) (by omega) ?_
                                refine lv_dup hx hb dX11_init_73 rfl ?_
                                refine lv_iconst (v := (-1)) hx hb dX11_init_74 (by decide) ?_
                                refine ccall (As := [.int (-1)]) (rest := [.ref q_58, .int 9, .ref q_3]) (k := 8) (X := [(h0, .inr (10, [.ref q_1, .ref q_2, .ref q_3, .null, .null, .null, .null, .null, .null])), (q_1, .inl (cA_1, 6, .inr (.inr (.inr (.inr (fun _ => none)))))), (q_2, .inl (cA_2, 4, .inr (.inr (.inr (.inr f_18))))), (q_3, .inl (cA_3, 32, .inr (.inr (.inr (.inr f_55)))))]) C (c_Table_init l D q_58 H.size (-1)) (by decide) mc_X9_init (zt_t1 30 rfl rfl) ⟨Nat.le_of_ble_eq_true rfl, Nat.le_of_ble_eq_true rfl⟩ ⟨Nat.le_of_ble_eq_true rfl, Nat.le_of_ble_eq_true rfl⟩ hl.1 (Nat.le_of_ble_eq_true rfl) dX11_init_75 hC hP hD hS hA hAr hK hE (fun K V H locs hC hP hD hS hAr hle hq => ?_)
                                have hz := hz.add hle hq
                                have hr_q_2 := hr_q_2.le hle
                                have hr_q_3 := hr_q_3.le hle
                                clear hle hq
                                refine W.widen (k := 409) (n := 7924) (by omega) (by omega) ?_
                                have hv := hz.get 0 rfl
                                obtain ⟨i_59, hi⟩ := cat (X := [(h0, .inr (10, [.ref q_1, .ref q_2, .ref q_3, .null, .null, .null, .null, .null, .null])), (q_1, .inl (cA_1, 6, .inr (.inr (.inr (.inr (fun _ => none)))))), (q_2, .inl (cA_2, 4, .inr (.inr (.inr (.inr f_18))))), (q_3, .inl (cA_3, 32, .inr (.inr (.inr (.inr f_55)))))]) (V := V) hv
                                rw [zF_8 hv.2.1] at hi
                                refine va_astq hx hb hK hP hD hS 3 2 i_59 8 rfl rfl hi rfl (by unfold vp_in; decide +kernel) dX11_init_78 (fun H locs hP hD hS => ?_)
                                have hP : va_P D vwCl ([(h0, .inr (10, [.ref q_1, .ref q_2, .ref q_3, .null, .null, .null, .null, .null, .null])), (q_1, .inl (cA_1, 6, .inr (.inr (.inr (.inr (fun _ => none)))))), (q_2, .inl (cA_2, 4, .inr (.inr (.inr (.inr f_18))))), (q_3, .inl (cA_3, 32, .inr (.inr (.inr (.inr (va_up f_55 9 (some q_58)))))))] ++ zW K V) H := hP
                                have hD : va_D A ([(h0, .inr (10, [.ref q_1, .ref q_2, .ref q_3, .null, .null, .null, .null, .null, .null])), (q_1, .inl (cA_1, 6, .inr (.inr (.inr (.inr (fun _ => none)))))), (q_2, .inl (cA_2, 4, .inr (.inr (.inr (.inr f_18))))), (q_3, .inl (cA_3, 32, .inr (.inr (.inr (.inr (va_up f_55 9 (some q_58)))))))] ++ zW K V) := hD
                                have hr_q_3 := hr_q_3.push hv
                                generalize va_up f_55 9 (some q_58) = f_59 at hP hD hr_q_3
                                clear hv hi
                                have hz : zats K [] := fun q h => hz q (List.mem_cons_of_mem _ h)
                                refine lv_iinc (v := 10) (lv' := [(1, .int 10), (0, .ref h0)]) hx hb dX11_init_79 hl (k := 0) rfl (by decide) (by decide) rfl (fun ls hl => ?_)
                                refine lv_goto (tgt := 59) hx hb dX11_init_82 (by decide) ?_
                                refine lv_iload_n hx hb dX11_init_59 rfl (lv_at hl 0 rfl) ?_
                                refine lv_bipush (v := 32) hx hb dX11_init_60 (by decide) ?_
                                refine lv_icmp_ge (tgt := 85) hx hb dX11_init_62 (by decide) (fun c_61 => ?_) (fun c_61 => ?_)
                                · exact absurd c_61 (by decide +kernel)
                                · skip
                                  refine lv_aload_n hx hb dX11_init_65 rfl (lv_at hl 1 rfl) ?_
                                  refine va_get (D := D) (ci := 10) (v := .ref q_3) (C := RX11) (T := TX11) (N := 9) hx hb hts in_10 hown hK hP 0 rfl rfl 2 (by decide) (hts (.fieldLink RX11 21 "CardTables" "kept" "[LCardTables$Table;") (zt_t2 59 rfl rfl)) (fun _ h9 => h9) rfl dX11_init_66 ?_
                                  refine lv_iload_n hx hb dX11_init_69 rfl (lv_at hl 0 rfl) ?_
                                  refine va_new (ci := 8) (fs := [.int 0, .null, .int 0, .int 0, .int 0, .null, .null, .null, .null, .null, .null, .null, .null, .null]) (C := RX9) (T := TX9) (N := 14) hx hb hts in_8 tyX9 tyX9_ok hown (hts (.classLink RX11 15 RX9) (zt_t1 27 rfl rfl)) (hts (.instantiable RX9 14) (zt_t1 29 rfl rfl)) (hts (.initialized RX9) (zt_t1 2 rfl rfl)) hK hP hD hS hA rfl (fun j hj => by rcases (show j = 0 ∨ j = 1 ∨ j = 2 ∨ j = 3 ∨ j = 4 ∨ j = 5 ∨ j = 6 ∨ j = 7 ∨ j = 8 ∨ j = 9 ∨ j = 10 ∨ j = 11 ∨ j = 12 ∨ j = 13 by omega) with rfl | rfl | rfl | rfl | rfl | rfl | rfl | rfl | rfl | rfl | rfl | rfl | rfl | rfl <;> rfl) (Nat.le_of_ble_eq_true rfl) (Nat.le_of_ble_eq_true rfl) dX11_init_70 (fun q_62 H hP hD hS => ?_)
                                  have hP : va_P D vwCl (([(h0, .inr (10, [.ref q_1, .ref q_2, .ref q_3, .null, .null, .null, .null, .null, .null])), (q_1, .inl (cA_1, 6, .inr (.inr (.inr (.inr (fun _ => none)))))), (q_2, .inl (cA_2, 4, .inr (.inr (.inr (.inr f_18))))), (q_3, .inl (cA_3, 32, .inr (.inr (.inr (.inr f_59)))))] ++ zW K V) ++ [(q_62, .inr (8, [.int 0, .null, .int 0, .int 0, .int 0, .null, .null, .null, .null, .null, .null, .null, .null, .null]))]) H := hP
                                  have hD : va_D A (([(h0, .inr (10, [.ref q_1, .ref q_2, .ref q_3, .null, .null, .null, .null, .null, .null])), (q_1, .inl (cA_1, 6, .inr (.inr (.inr (.inr (fun _ => none)))))), (q_2, .inl (cA_2, 4, .inr (.inr (.inr (.inr f_18))))), (q_3, .inl (cA_3, 32, .inr (.inr (.inr (.inr f_59)))))] ++ zW K V) ++ [(q_62, .inr (8, [.int 0, .null, .int 0, .int 0, .int 0, .null, .null, .null, .null, .null, .null, .null, .null, .null]))]) := hD
                                  refine W.widen (k := 410) (n := 7938) (by omega) (by omega) ?_
                                  refine lv_dup hx hb dX11_init_73 rfl ?_
                                  refine lv_iconst (v := (-1)) hx hb dX11_init_74 (by decide) ?_
                                  refine ccall (As := [.int (-1)]) (rest := [.ref q_62, .int 10, .ref q_3]) (k := 8) (X := [(h0, .inr (10, [.ref q_1, .ref q_2, .ref q_3, .null, .null, .null, .null, .null, .null])), (q_1, .inl (cA_1, 6, .inr (.inr (.inr (.inr (fun _ => none)))))), (q_2, .inl (cA_2, 4, .inr (.inr (.inr (.inr f_18))))), (q_3, .inl (cA_3, 32, .inr (.inr (.inr (.inr f_59)))))]) C (c_Table_init l D q_62 H.size (-1)) (by decide) mc_X9_init (zt_t1 30 rfl rfl) ⟨Nat.le_of_ble_eq_true rfl, Nat.le_of_ble_eq_true rfl⟩ ⟨Nat.le_of_ble_eq_true rfl, Nat.le_of_ble_eq_true rfl⟩ hl.1 (Nat.le_of_ble_eq_true rfl) dX11_init_75 hC hP hD hS hA hAr hK hE (fun K V H locs hC hP hD hS hAr hle hq => ?_)
                                  have hz := hz.add hle hq
                                  have hr_q_2 := hr_q_2.le hle
                                  have hr_q_3 := hr_q_3.le hle
                                  clear hle hq
                                  refine W.widen (k := 438) (n := 8487) (by omega) (by omega) ?_
                                  have hv := hz.get 0 rfl
                                  obtain ⟨i_63, hi⟩ := cat (X := [(h0, .inr (10, [.ref q_1, .ref q_2, .ref q_3, .null, .null, .null, .null, .null, .null])), (q_1, .inl (cA_1, 6, .inr (.inr (.inr (.inr (fun _ => none)))))), (q_2, .inl (cA_2, 4, .inr (.inr (.inr (.inr f_18))))), (q_3, .inl (cA_3, 32, .inr (.inr (.inr (.inr f_59)))))]) (V := V) hv
                                  rw [zF_8 hv.2.1] at hi
                                  refine va_astq hx hb hK hP hD hS 3 2 i_63 8 rfl rfl hi rfl (by unfold vp_in; decide +kernel) dX11_init_78 (fun H locs hP hD hS => ?_)
                                  have hP : va_P D vwCl ([(h0, .inr (10, [.ref q_1, .ref q_2, .ref q_3, .null, .null, .null, .null, .null, .null])), (q_1, .inl (cA_1, 6, .inr (.inr (.inr (.inr (fun _ => none)))))), (q_2, .inl (cA_2, 4, .inr (.inr (.inr (.inr f_18))))), (q_3, .inl (cA_3, 32, .inr (.inr (.inr (.inr (va_up f_59 10 (some q_62)))))))] ++ zW K V) H := hP
                                  have hD : va_D A ([(h0, .inr (10, [.ref q_1, .ref q_2, .ref q_3, .null, .null, .null, .null, .null, .null])), (q_1, .inl (cA_1, 6, .inr (.inr (.inr (.inr (fun _ => none)))))), (q_2, .inl (cA_2, 4, .inr (.inr (.inr (.inr f_18))))), (q_3, .inl (cA_3, 32, .inr (.inr (.inr (.inr (va_up f_59 10 (some q_62)))))))] ++ zW K V) := hD
                                  have hr_q_3 := hr_q_3.push hv
                                  generalize va_up f_59 10 (some q_62) = f_63 at hP hD hr_q_3
                                  clear hv hi
                                  have hz : zats K [] := fun q h => hz q (List.mem_cons_of_mem _ h)
                                  refine lv_iinc (v := 11) (lv' := [(1, .int 11), (0, .ref h0)]) hx hb dX11_init_79 hl (k := 0) rfl (by decide) (by decide) rfl (fun ls hl => ?_)
                                  refine lv_goto (tgt := 59) hx hb dX11_init_82 (by decide) ?_
                                  refine lv_iload_n hx hb dX11_init_59 rfl (lv_at hl 0 rfl) ?_
                                  refine lv_bipush (v := 32) hx hb dX11_init_60 (by decide) ?_
                                  refine lv_icmp_ge (tgt := 85) hx hb dX11_init_62 (by decide) (fun c_65 => ?_) (fun c_65 => ?_)
                                  · exact absurd c_65 (by decide +kernel)
                                  · skip
                                    refine lv_aload_n hx hb dX11_init_65 rfl (lv_at hl 1 rfl) ?_
                                    refine va_get (D := D) (ci := 10) (v := .ref q_3) (C := RX11) (T := TX11) (N := 9) hx hb hts in_10 hown hK hP 0 rfl rfl 2 (by decide) (hts (.fieldLink RX11 21 "CardTables" "kept" "[LCardTables$Table;") (zt_t2 59 rfl rfl)) (fun _ h9 => h9) rfl dX11_init_66 ?_
                                    refine lv_iload_n hx hb dX11_init_69 rfl (lv_at hl 0 rfl) ?_
                                    refine va_new (ci := 8) (fs := [.int 0, .null, .int 0, .int 0, .int 0, .null, .null, .null, .null, .null, .null, .null, .null, .null]) (C := RX9) (T := TX9) (N := 14) hx hb hts in_8 tyX9 tyX9_ok hown (hts (.classLink RX11 15 RX9) (zt_t1 27 rfl rfl)) (hts (.instantiable RX9 14) (zt_t1 29 rfl rfl)) (hts (.initialized RX9) (zt_t1 2 rfl rfl)) hK hP hD hS hA rfl (fun j hj => by rcases (show j = 0 ∨ j = 1 ∨ j = 2 ∨ j = 3 ∨ j = 4 ∨ j = 5 ∨ j = 6 ∨ j = 7 ∨ j = 8 ∨ j = 9 ∨ j = 10 ∨ j = 11 ∨ j = 12 ∨ j = 13 by omega) with rfl | rfl | rfl | rfl | rfl | rfl | rfl | rfl | rfl | rfl | rfl | rfl | rfl | rfl <;> rfl) (Nat.le_of_ble_eq_true rfl) (Nat.le_of_ble_eq_true rfl) dX11_init_70 (fun q_66 H hP hD hS => ?_)
                                    have hP : va_P D vwCl (([(h0, .inr (10, [.ref q_1, .ref q_2, .ref q_3, .null, .null, .null, .null, .null, .null])), (q_1, .inl (cA_1, 6, .inr (.inr (.inr (.inr (fun _ => none)))))), (q_2, .inl (cA_2, 4, .inr (.inr (.inr (.inr f_18))))), (q_3, .inl (cA_3, 32, .inr (.inr (.inr (.inr f_63)))))] ++ zW K V) ++ [(q_66, .inr (8, [.int 0, .null, .int 0, .int 0, .int 0, .null, .null, .null, .null, .null, .null, .null, .null, .null]))]) H := hP
                                    have hD : va_D A (([(h0, .inr (10, [.ref q_1, .ref q_2, .ref q_3, .null, .null, .null, .null, .null, .null])), (q_1, .inl (cA_1, 6, .inr (.inr (.inr (.inr (fun _ => none)))))), (q_2, .inl (cA_2, 4, .inr (.inr (.inr (.inr f_18))))), (q_3, .inl (cA_3, 32, .inr (.inr (.inr (.inr f_63)))))] ++ zW K V) ++ [(q_66, .inr (8, [.int 0, .null, .int 0, .int 0, .int 0, .null, .null, .null, .null, .null, .null, .null, .null, .null]))]) := hD
                                    refine W.widen (k := 439) (n := 8501) (by omega) (by omega) ?_
                                    refine lv_dup hx hb dX11_init_73 rfl ?_
                                    refine lv_iconst (v := (-1)) hx hb dX11_init_74 (by decide) ?_
                                    refine ccall (As := [.int (-1)]) (rest := [.ref q_66, .int 11, .ref q_3]) (k := 8) (X := [(h0, .inr (10, [.ref q_1, .ref q_2, .ref q_3, .null, .null, .null, .null, .null, .null])), (q_1, .inl (cA_1, 6, .inr (.inr (.inr (.inr (fun _ => none)))))), (q_2, .inl (cA_2, 4, .inr (.inr (.inr (.inr f_18))))), (q_3, .inl (cA_3, 32, .inr (.inr (.inr (.inr f_63)))))]) C (c_Table_init l D q_66 H.size (-1)) (by decide) mc_X9_init (zt_t1 30 rfl rfl) ⟨Nat.le_of_ble_eq_true rfl, Nat.le_of_ble_eq_true rfl⟩ ⟨Nat.le_of_ble_eq_true rfl, Nat.le_of_ble_eq_true rfl⟩ hl.1 (Nat.le_of_ble_eq_true rfl) dX11_init_75 hC hP hD hS hA hAr hK hE (fun K V H locs hC hP hD hS hAr hle hq => ?_)
                                    have hz := hz.add hle hq
                                    have hr_q_2 := hr_q_2.le hle
                                    have hr_q_3 := hr_q_3.le hle
                                    clear hle hq
                                    refine W.widen (k := 467) (n := 9050) (by omega) (by omega) ?_
                                    have hv := hz.get 0 rfl
                                    obtain ⟨i_67, hi⟩ := cat (X := [(h0, .inr (10, [.ref q_1, .ref q_2, .ref q_3, .null, .null, .null, .null, .null, .null])), (q_1, .inl (cA_1, 6, .inr (.inr (.inr (.inr (fun _ => none)))))), (q_2, .inl (cA_2, 4, .inr (.inr (.inr (.inr f_18))))), (q_3, .inl (cA_3, 32, .inr (.inr (.inr (.inr f_63)))))]) (V := V) hv
                                    rw [zF_8 hv.2.1] at hi
                                    refine va_astq hx hb hK hP hD hS 3 2 i_67 8 rfl rfl hi rfl (by unfold vp_in; decide +kernel) dX11_init_78 (fun H locs hP hD hS => ?_)
                                    have hP : va_P D vwCl ([(h0, .inr (10, [.ref q_1, .ref q_2, .ref q_3, .null, .null, .null, .null, .null, .null])), (q_1, .inl (cA_1, 6, .inr (.inr (.inr (.inr (fun _ => none)))))), (q_2, .inl (cA_2, 4, .inr (.inr (.inr (.inr f_18))))), (q_3, .inl (cA_3, 32, .inr (.inr (.inr (.inr (va_up f_63 11 (some q_66)))))))] ++ zW K V) H := hP
                                    have hD : va_D A ([(h0, .inr (10, [.ref q_1, .ref q_2, .ref q_3, .null, .null, .null, .null, .null, .null])), (q_1, .inl (cA_1, 6, .inr (.inr (.inr (.inr (fun _ => none)))))), (q_2, .inl (cA_2, 4, .inr (.inr (.inr (.inr f_18))))), (q_3, .inl (cA_3, 32, .inr (.inr (.inr (.inr (va_up f_63 11 (some q_66)))))))] ++ zW K V) := hD
                                    have hr_q_3 := hr_q_3.push hv
                                    generalize va_up f_63 11 (some q_66) = f_67 at hP hD hr_q_3
                                    clear hv hi
                                    have hz : zats K [] := fun q h => hz q (List.mem_cons_of_mem _ h)
                                    refine lv_iinc (v := 12) (lv' := [(1, .int 12), (0, .ref h0)]) hx hb dX11_init_79 hl (k := 0) rfl (by decide) (by decide) rfl (fun ls hl => ?_)
                                    refine lv_goto (tgt := 59) hx hb dX11_init_82 (by decide) ?_
                                    refine lv_iload_n hx hb dX11_init_59 rfl (lv_at hl 0 rfl) ?_
                                    refine lv_bipush (v := 32) hx hb dX11_init_60 (by decide) ?_
                                    refine lv_icmp_ge (tgt := 85) hx hb dX11_init_62 (by decide) (fun c_69 => ?_) (fun c_69 => ?_)
                                    · exact absurd c_69 (by decide +kernel)
                                    · skip
                                      refine lv_aload_n hx hb dX11_init_65 rfl (lv_at hl 1 rfl) ?_
                                      refine va_get (D := D) (ci := 10) (v := .ref q_3) (C := RX11) (T := TX11) (N := 9) hx hb hts in_10 hown hK hP 0 rfl rfl 2 (by decide) (hts (.fieldLink RX11 21 "CardTables" "kept" "[LCardTables$Table;") (zt_t2 59 rfl rfl)) (fun _ h9 => h9) rfl dX11_init_66 ?_
                                      refine lv_iload_n hx hb dX11_init_69 rfl (lv_at hl 0 rfl) ?_
                                      refine va_new (ci := 8) (fs := [.int 0, .null, .int 0, .int 0, .int 0, .null, .null, .null, .null, .null, .null, .null, .null, .null]) (C := RX9) (T := TX9) (N := 14) hx hb hts in_8 tyX9 tyX9_ok hown (hts (.classLink RX11 15 RX9) (zt_t1 27 rfl rfl)) (hts (.instantiable RX9 14) (zt_t1 29 rfl rfl)) (hts (.initialized RX9) (zt_t1 2 rfl rfl)) hK hP hD hS hA rfl (fun j hj => by rcases (show j = 0 ∨ j = 1 ∨ j = 2 ∨ j = 3 ∨ j = 4 ∨ j = 5 ∨ j = 6 ∨ j = 7 ∨ j = 8 ∨ j = 9 ∨ j = 10 ∨ j = 11 ∨ j = 12 ∨ j = 13 by omega) with rfl | rfl | rfl | rfl | rfl | rfl | rfl | rfl | rfl | rfl | rfl | rfl | rfl | rfl <;> rfl) (Nat.le_of_ble_eq_true rfl) (Nat.le_of_ble_eq_true rfl) dX11_init_70 (fun q_70 H hP hD hS => ?_)
                                      have hP : va_P D vwCl (([(h0, .inr (10, [.ref q_1, .ref q_2, .ref q_3, .null, .null, .null, .null, .null, .null])), (q_1, .inl (cA_1, 6, .inr (.inr (.inr (.inr (fun _ => none)))))), (q_2, .inl (cA_2, 4, .inr (.inr (.inr (.inr f_18))))), (q_3, .inl (cA_3, 32, .inr (.inr (.inr (.inr f_67)))))] ++ zW K V) ++ [(q_70, .inr (8, [.int 0, .null, .int 0, .int 0, .int 0, .null, .null, .null, .null, .null, .null, .null, .null, .null]))]) H := hP
                                      have hD : va_D A (([(h0, .inr (10, [.ref q_1, .ref q_2, .ref q_3, .null, .null, .null, .null, .null, .null])), (q_1, .inl (cA_1, 6, .inr (.inr (.inr (.inr (fun _ => none)))))), (q_2, .inl (cA_2, 4, .inr (.inr (.inr (.inr f_18))))), (q_3, .inl (cA_3, 32, .inr (.inr (.inr (.inr f_67)))))] ++ zW K V) ++ [(q_70, .inr (8, [.int 0, .null, .int 0, .int 0, .int 0, .null, .null, .null, .null, .null, .null, .null, .null, .null]))]) := hD
                                      refine W.widen (k := 468) (n := 9064) (by omega) (by omega) ?_
                                      refine lv_dup hx hb dX11_init_73 rfl ?_
                                      refine lv_iconst (v := (-1)) hx hb dX11_init_74 (by decide) ?_
                                      refine ccall (As := [.int (-1)]) (rest := [.ref q_70, .int 12, .ref q_3]) (k := 8) (X := [(h0, .inr (10, [.ref q_1, .ref q_2, .ref q_3, .null, .null, .null, .null, .null, .null])), (q_1, .inl (cA_1, 6, .inr (.inr (.inr (.inr (fun _ => none)))))), (q_2, .inl (cA_2, 4, .inr (.inr (.inr (.inr f_18))))), (q_3, .inl (cA_3, 32, .inr (.inr (.inr (.inr f_67)))))]) C (c_Table_init l D q_70 H.size (-1)) (by decide) mc_X9_init (zt_t1 30 rfl rfl) ⟨Nat.le_of_ble_eq_true rfl, Nat.le_of_ble_eq_true rfl⟩ ⟨Nat.le_of_ble_eq_true rfl, Nat.le_of_ble_eq_true rfl⟩ hl.1 (Nat.le_of_ble_eq_true rfl) dX11_init_75 hC hP hD hS hA hAr hK hE (fun K V H locs hC hP hD hS hAr hle hq => ?_)
                                      have hz := hz.add hle hq
                                      have hr_q_2 := hr_q_2.le hle
                                      have hr_q_3 := hr_q_3.le hle
                                      clear hle hq
                                      refine W.widen (k := 496) (n := 9613) (by omega) (by omega) ?_
                                      have hv := hz.get 0 rfl
                                      obtain ⟨i_71, hi⟩ := cat (X := [(h0, .inr (10, [.ref q_1, .ref q_2, .ref q_3, .null, .null, .null, .null, .null, .null])), (q_1, .inl (cA_1, 6, .inr (.inr (.inr (.inr (fun _ => none)))))), (q_2, .inl (cA_2, 4, .inr (.inr (.inr (.inr f_18))))), (q_3, .inl (cA_3, 32, .inr (.inr (.inr (.inr f_67)))))]) (V := V) hv
                                      rw [zF_8 hv.2.1] at hi
                                      refine va_astq hx hb hK hP hD hS 3 2 i_71 8 rfl rfl hi rfl (by unfold vp_in; decide +kernel) dX11_init_78 (fun H locs hP hD hS => ?_)
                                      have hP : va_P D vwCl ([(h0, .inr (10, [.ref q_1, .ref q_2, .ref q_3, .null, .null, .null, .null, .null, .null])), (q_1, .inl (cA_1, 6, .inr (.inr (.inr (.inr (fun _ => none)))))), (q_2, .inl (cA_2, 4, .inr (.inr (.inr (.inr f_18))))), (q_3, .inl (cA_3, 32, .inr (.inr (.inr (.inr (va_up f_67 12 (some q_70)))))))] ++ zW K V) H := hP
                                      have hD : va_D A ([(h0, .inr (10, [.ref q_1, .ref q_2, .ref q_3, .null, .null, .null, .null, .null, .null])), (q_1, .inl (cA_1, 6, .inr (.inr (.inr (.inr (fun _ => none)))))), (q_2, .inl (cA_2, 4, .inr (.inr (.inr (.inr f_18))))), (q_3, .inl (cA_3, 32, .inr (.inr (.inr (.inr (va_up f_67 12 (some q_70)))))))] ++ zW K V) := hD
                                      have hr_q_3 := hr_q_3.push hv
                                      generalize va_up f_67 12 (some q_70) = f_71 at hP hD hr_q_3
                                      clear hv hi
                                      have hz : zats K [] := fun q h => hz q (List.mem_cons_of_mem _ h)
                                      refine lv_iinc (v := 13) (lv' := [(1, .int 13), (0, .ref h0)]) hx hb dX11_init_79 hl (k := 0) rfl (by decide) (by decide) rfl (fun ls hl => ?_)
                                      refine lv_goto (tgt := 59) hx hb dX11_init_82 (by decide) ?_
                                      refine lv_iload_n hx hb dX11_init_59 rfl (lv_at hl 0 rfl) ?_
                                      refine lv_bipush (v := 32) hx hb dX11_init_60 (by decide) ?_
                                      refine lv_icmp_ge (tgt := 85) hx hb dX11_init_62 (by decide) (fun c_73 => ?_) (fun c_73 => ?_)
                                      · exact absurd c_73 (by decide +kernel)
                                      · skip
                                        refine lv_aload_n hx hb dX11_init_65 rfl (lv_at hl 1 rfl) ?_
                                        refine va_get (D := D) (ci := 10) (v := .ref q_3) (C := RX11) (T := TX11) (N := 9) hx hb hts in_10 hown hK hP 0 rfl rfl 2 (by decide) (hts (.fieldLink RX11 21 "CardTables" "kept" "[LCardTables$Table;") (zt_t2 59 rfl rfl)) (fun _ h9 => h9) rfl dX11_init_66 ?_
                                        refine lv_iload_n hx hb dX11_init_69 rfl (lv_at hl 0 rfl) ?_
                                        refine va_new (ci := 8) (fs := [.int 0, .null, .int 0, .int 0, .int 0, .null, .null, .null, .null, .null, .null, .null, .null, .null]) (C := RX9) (T := TX9) (N := 14) hx hb hts in_8 tyX9 tyX9_ok hown (hts (.classLink RX11 15 RX9) (zt_t1 27 rfl rfl)) (hts (.instantiable RX9 14) (zt_t1 29 rfl rfl)) (hts (.initialized RX9) (zt_t1 2 rfl rfl)) hK hP hD hS hA rfl (fun j hj => by rcases (show j = 0 ∨ j = 1 ∨ j = 2 ∨ j = 3 ∨ j = 4 ∨ j = 5 ∨ j = 6 ∨ j = 7 ∨ j = 8 ∨ j = 9 ∨ j = 10 ∨ j = 11 ∨ j = 12 ∨ j = 13 by omega) with rfl | rfl | rfl | rfl | rfl | rfl | rfl | rfl | rfl | rfl | rfl | rfl | rfl | rfl <;> rfl) (Nat.le_of_ble_eq_true rfl) (Nat.le_of_ble_eq_true rfl) dX11_init_70 (fun q_74 H hP hD hS => ?_)
                                        have hP : va_P D vwCl (([(h0, .inr (10, [.ref q_1, .ref q_2, .ref q_3, .null, .null, .null, .null, .null, .null])), (q_1, .inl (cA_1, 6, .inr (.inr (.inr (.inr (fun _ => none)))))), (q_2, .inl (cA_2, 4, .inr (.inr (.inr (.inr f_18))))), (q_3, .inl (cA_3, 32, .inr (.inr (.inr (.inr f_71)))))] ++ zW K V) ++ [(q_74, .inr (8, [.int 0, .null, .int 0, .int 0, .int 0, .null, .null, .null, .null, .null, .null, .null, .null, .null]))]) H := hP
                                        have hD : va_D A (([(h0, .inr (10, [.ref q_1, .ref q_2, .ref q_3, .null, .null, .null, .null, .null, .null])), (q_1, .inl (cA_1, 6, .inr (.inr (.inr (.inr (fun _ => none)))))), (q_2, .inl (cA_2, 4, .inr (.inr (.inr (.inr f_18))))), (q_3, .inl (cA_3, 32, .inr (.inr (.inr (.inr f_71)))))] ++ zW K V) ++ [(q_74, .inr (8, [.int 0, .null, .int 0, .int 0, .int 0, .null, .null, .null, .null, .null, .null, .null, .null, .null]))]) := hD
                                        refine W.widen (k := 497) (n := 9627) (by omega) (by omega) ?_
                                        refine lv_dup hx hb dX11_init_73 rfl ?_
                                        refine lv_iconst (v := (-1)) hx hb dX11_init_74 (by decide) ?_
                                        refine ccall (As := [.int (-1)]) (rest := [.ref q_74, .int 13, .ref q_3]) (k := 8) (X := [(h0, .inr (10, [.ref q_1, .ref q_2, .ref q_3, .null, .null, .null, .null, .null, .null])), (q_1, .inl (cA_1, 6, .inr (.inr (.inr (.inr (fun _ => none)))))), (q_2, .inl (cA_2, 4, .inr (.inr (.inr (.inr f_18))))), (q_3, .inl (cA_3, 32, .inr (.inr (.inr (.inr f_71)))))]) C (c_Table_init l D q_74 H.size (-1)) (by decide) mc_X9_init (zt_t1 30 rfl rfl) ⟨Nat.le_of_ble_eq_true rfl, Nat.le_of_ble_eq_true rfl⟩ ⟨Nat.le_of_ble_eq_true rfl, Nat.le_of_ble_eq_true rfl⟩ hl.1 (Nat.le_of_ble_eq_true rfl) dX11_init_75 hC hP hD hS hA hAr hK hE (fun K V H locs hC hP hD hS hAr hle hq => ?_)
                                        have hz := hz.add hle hq
                                        have hr_q_2 := hr_q_2.le hle
                                        have hr_q_3 := hr_q_3.le hle
                                        clear hle hq
                                        refine W.widen (k := 525) (n := 10176) (by omega) (by omega) ?_
                                        have hv := hz.get 0 rfl
                                        obtain ⟨i_75, hi⟩ := cat (X := [(h0, .inr (10, [.ref q_1, .ref q_2, .ref q_3, .null, .null, .null, .null, .null, .null])), (q_1, .inl (cA_1, 6, .inr (.inr (.inr (.inr (fun _ => none)))))), (q_2, .inl (cA_2, 4, .inr (.inr (.inr (.inr f_18))))), (q_3, .inl (cA_3, 32, .inr (.inr (.inr (.inr f_71)))))]) (V := V) hv
                                        rw [zF_8 hv.2.1] at hi
                                        refine va_astq hx hb hK hP hD hS 3 2 i_75 8 rfl rfl hi rfl (by unfold vp_in; decide +kernel) dX11_init_78 (fun H locs hP hD hS => ?_)
                                        have hP : va_P D vwCl ([(h0, .inr (10, [.ref q_1, .ref q_2, .ref q_3, .null, .null, .null, .null, .null, .null])), (q_1, .inl (cA_1, 6, .inr (.inr (.inr (.inr (fun _ => none)))))), (q_2, .inl (cA_2, 4, .inr (.inr (.inr (.inr f_18))))), (q_3, .inl (cA_3, 32, .inr (.inr (.inr (.inr (va_up f_71 13 (some q_74)))))))] ++ zW K V) H := hP
                                        have hD : va_D A ([(h0, .inr (10, [.ref q_1, .ref q_2, .ref q_3, .null, .null, .null, .null, .null, .null])), (q_1, .inl (cA_1, 6, .inr (.inr (.inr (.inr (fun _ => none)))))), (q_2, .inl (cA_2, 4, .inr (.inr (.inr (.inr f_18))))), (q_3, .inl (cA_3, 32, .inr (.inr (.inr (.inr (va_up f_71 13 (some q_74)))))))] ++ zW K V) := hD
                                        have hr_q_3 := hr_q_3.push hv
                                        generalize va_up f_71 13 (some q_74) = f_75 at hP hD hr_q_3
                                        clear hv hi
                                        have hz : zats K [] := fun q h => hz q (List.mem_cons_of_mem _ h)
                                        refine lv_iinc (v := 14) (lv' := [(1, .int 14), (0, .ref h0)]) hx hb dX11_init_79 hl (k := 0) rfl (by decide) (by decide) rfl (fun ls hl => ?_)
                                        refine lv_goto (tgt := 59) hx hb dX11_init_82 (by decide) ?_
                                        refine lv_iload_n hx hb dX11_init_59 rfl (lv_at hl 0 rfl) ?_
                                        refine lv_bipush (v := 32) hx hb dX11_init_60 (by decide) ?_
                                        refine lv_icmp_ge (tgt := 85) hx hb dX11_init_62 (by decide) (fun c_77 => ?_) (fun c_77 => ?_)
                                        · exact absurd c_77 (by decide +kernel)
                                        · skip
                                          refine lv_aload_n hx hb dX11_init_65 rfl (lv_at hl 1 rfl) ?_
                                          refine va_get (D := D) (ci := 10) (v := .ref q_3) (C := RX11) (T := TX11) (N := 9) hx hb hts in_10 hown hK hP 0 rfl rfl 2 (by decide) (hts (.fieldLink RX11 21 "CardTables" "kept" "[LCardTables$Table;") (zt_t2 59 rfl rfl)) (fun _ h9 => h9) rfl dX11_init_66 ?_
                                          refine lv_iload_n hx hb dX11_init_69 rfl (lv_at hl 0 rfl) ?_
                                          refine va_new (ci := 8) (fs := [.int 0, .null, .int 0, .int 0, .int 0, .null, .null, .null, .null, .null, .null, .null, .null, .null]) (C := RX9) (T := TX9) (N := 14) hx hb hts in_8 tyX9 tyX9_ok hown (hts (.classLink RX11 15 RX9) (zt_t1 27 rfl rfl)) (hts (.instantiable RX9 14) (zt_t1 29 rfl rfl)) (hts (.initialized RX9) (zt_t1 2 rfl rfl)) hK hP hD hS hA rfl (fun j hj => by rcases (show j = 0 ∨ j = 1 ∨ j = 2 ∨ j = 3 ∨ j = 4 ∨ j = 5 ∨ j = 6 ∨ j = 7 ∨ j = 8 ∨ j = 9 ∨ j = 10 ∨ j = 11 ∨ j = 12 ∨ j = 13 by omega) with rfl | rfl | rfl | rfl | rfl | rfl | rfl | rfl | rfl | rfl | rfl | rfl | rfl | rfl <;> rfl) (Nat.le_of_ble_eq_true rfl) (Nat.le_of_ble_eq_true rfl) dX11_init_70 (fun q_78 H hP hD hS => ?_)
                                          have hP : va_P D vwCl (([(h0, .inr (10, [.ref q_1, .ref q_2, .ref q_3, .null, .null, .null, .null, .null, .null])), (q_1, .inl (cA_1, 6, .inr (.inr (.inr (.inr (fun _ => none)))))), (q_2, .inl (cA_2, 4, .inr (.inr (.inr (.inr f_18))))), (q_3, .inl (cA_3, 32, .inr (.inr (.inr (.inr f_75)))))] ++ zW K V) ++ [(q_78, .inr (8, [.int 0, .null, .int 0, .int 0, .int 0, .null, .null, .null, .null, .null, .null, .null, .null, .null]))]) H := hP
                                          have hD : va_D A (([(h0, .inr (10, [.ref q_1, .ref q_2, .ref q_3, .null, .null, .null, .null, .null, .null])), (q_1, .inl (cA_1, 6, .inr (.inr (.inr (.inr (fun _ => none)))))), (q_2, .inl (cA_2, 4, .inr (.inr (.inr (.inr f_18))))), (q_3, .inl (cA_3, 32, .inr (.inr (.inr (.inr f_75)))))] ++ zW K V) ++ [(q_78, .inr (8, [.int 0, .null, .int 0, .int 0, .int 0, .null, .null, .null, .null, .null, .null, .null, .null, .null]))]) := hD
                                          refine W.widen (k := 526) (n := 10190) (by omega) (by omega) ?_
                                          refine lv_dup hx hb dX11_init_73 rfl ?_
                                          refine lv_iconst (v := (-1)) hx hb dX11_init_74 (by decide) ?_
                                          refine ccall (As := [.int (-1)]) (rest := [.ref q_78, .int 14, .ref q_3]) (k := 8) (X := [(h0, .inr (10, [.ref q_1, .ref q_2, .ref q_3, .null, .null, .null, .null, .null, .null])), (q_1, .inl (cA_1, 6, .inr (.inr (.inr (.inr (fun _ => none)))))), (q_2, .inl (cA_2, 4, .inr (.inr (.inr (.inr f_18))))), (q_3, .inl (cA_3, 32, .inr (.inr (.inr (.inr f_75)))))]) C (c_Table_init l D q_78 H.size (-1)) (by decide) mc_X9_init (zt_t1 30 rfl rfl) ⟨Nat.le_of_ble_eq_true rfl, Nat.le_of_ble_eq_true rfl⟩ ⟨Nat.le_of_ble_eq_true rfl, Nat.le_of_ble_eq_true rfl⟩ hl.1 (Nat.le_of_ble_eq_true rfl) dX11_init_75 hC hP hD hS hA hAr hK hE (fun K V H locs hC hP hD hS hAr hle hq => ?_)
                                          have hz := hz.add hle hq
                                          have hr_q_2 := hr_q_2.le hle
                                          have hr_q_3 := hr_q_3.le hle
                                          clear hle hq
                                          refine W.widen (k := 554) (n := 10739) (by omega) (by omega) ?_
                                          have hv := hz.get 0 rfl
                                          obtain ⟨i_79, hi⟩ := cat (X := [(h0, .inr (10, [.ref q_1, .ref q_2, .ref q_3, .null, .null, .null, .null, .null, .null])), (q_1, .inl (cA_1, 6, .inr (.inr (.inr (.inr (fun _ => none)))))), (q_2, .inl (cA_2, 4, .inr (.inr (.inr (.inr f_18))))), (q_3, .inl (cA_3, 32, .inr (.inr (.inr (.inr f_75)))))]) (V := V) hv
                                          rw [zF_8 hv.2.1] at hi
                                          refine va_astq hx hb hK hP hD hS 3 2 i_79 8 rfl rfl hi rfl (by unfold vp_in; decide +kernel) dX11_init_78 (fun H locs hP hD hS => ?_)
                                          have hP : va_P D vwCl ([(h0, .inr (10, [.ref q_1, .ref q_2, .ref q_3, .null, .null, .null, .null, .null, .null])), (q_1, .inl (cA_1, 6, .inr (.inr (.inr (.inr (fun _ => none)))))), (q_2, .inl (cA_2, 4, .inr (.inr (.inr (.inr f_18))))), (q_3, .inl (cA_3, 32, .inr (.inr (.inr (.inr (va_up f_75 14 (some q_78)))))))] ++ zW K V) H := hP
                                          have hD : va_D A ([(h0, .inr (10, [.ref q_1, .ref q_2, .ref q_3, .null, .null, .null, .null, .null, .null])), (q_1, .inl (cA_1, 6, .inr (.inr (.inr (.inr (fun _ => none)))))), (q_2, .inl (cA_2, 4, .inr (.inr (.inr (.inr f_18))))), (q_3, .inl (cA_3, 32, .inr (.inr (.inr (.inr (va_up f_75 14 (some q_78)))))))] ++ zW K V) := hD
                                          have hr_q_3 := hr_q_3.push hv
                                          generalize va_up f_75 14 (some q_78) = f_79 at hP hD hr_q_3
                                          clear hv hi
                                          have hz : zats K [] := fun q h => hz q (List.mem_cons_of_mem _ h)
                                          refine lv_iinc (v := 15) (lv' := [(1, .int 15), (0, .ref h0)]) hx hb dX11_init_79 hl (k := 0) rfl (by decide) (by decide) rfl (fun ls hl => ?_)
                                          refine lv_goto (tgt := 59) hx hb dX11_init_82 (by decide) ?_
                                          refine lv_iload_n hx hb dX11_init_59 rfl (lv_at hl 0 rfl) ?_
                                          refine lv_bipush (v := 32) hx hb dX11_init_60 (by decide) ?_
                                          refine lv_icmp_ge (tgt := 85) hx hb dX11_init_62 (by decide) (fun c_81 => ?_) (fun c_81 => ?_)
                                          · exact absurd c_81 (by decide +kernel)
                                          · skip
                                            refine lv_aload_n hx hb dX11_init_65 rfl (lv_at hl 1 rfl) ?_
                                            refine va_get (D := D) (ci := 10) (v := .ref q_3) (C := RX11) (T := TX11) (N := 9) hx hb hts in_10 hown hK hP 0 rfl rfl 2 (by decide) (hts (.fieldLink RX11 21 "CardTables" "kept" "[LCardTables$Table;") (zt_t2 59 rfl rfl)) (fun _ h9 => h9) rfl dX11_init_66 ?_
                                            refine lv_iload_n hx hb dX11_init_69 rfl (lv_at hl 0 rfl) ?_
                                            refine va_new (ci := 8) (fs := [.int 0, .null, .int 0, .int 0, .int 0, .null, .null, .null, .null, .null, .null, .null, .null, .null]) (C := RX9) (T := TX9) (N := 14) hx hb hts in_8 tyX9 tyX9_ok hown (hts (.classLink RX11 15 RX9) (zt_t1 27 rfl rfl)) (hts (.instantiable RX9 14) (zt_t1 29 rfl rfl)) (hts (.initialized RX9) (zt_t1 2 rfl rfl)) hK hP hD hS hA rfl (fun j hj => by rcases (show j = 0 ∨ j = 1 ∨ j = 2 ∨ j = 3 ∨ j = 4 ∨ j = 5 ∨ j = 6 ∨ j = 7 ∨ j = 8 ∨ j = 9 ∨ j = 10 ∨ j = 11 ∨ j = 12 ∨ j = 13 by omega) with rfl | rfl | rfl | rfl | rfl | rfl | rfl | rfl | rfl | rfl | rfl | rfl | rfl | rfl <;> rfl) (Nat.le_of_ble_eq_true rfl) (Nat.le_of_ble_eq_true rfl) dX11_init_70 (fun q_82 H hP hD hS => ?_)
                                            have hP : va_P D vwCl (([(h0, .inr (10, [.ref q_1, .ref q_2, .ref q_3, .null, .null, .null, .null, .null, .null])), (q_1, .inl (cA_1, 6, .inr (.inr (.inr (.inr (fun _ => none)))))), (q_2, .inl (cA_2, 4, .inr (.inr (.inr (.inr f_18))))), (q_3, .inl (cA_3, 32, .inr (.inr (.inr (.inr f_79)))))] ++ zW K V) ++ [(q_82, .inr (8, [.int 0, .null, .int 0, .int 0, .int 0, .null, .null, .null, .null, .null, .null, .null, .null, .null]))]) H := hP
                                            have hD : va_D A (([(h0, .inr (10, [.ref q_1, .ref q_2, .ref q_3, .null, .null, .null, .null, .null, .null])), (q_1, .inl (cA_1, 6, .inr (.inr (.inr (.inr (fun _ => none)))))), (q_2, .inl (cA_2, 4, .inr (.inr (.inr (.inr f_18))))), (q_3, .inl (cA_3, 32, .inr (.inr (.inr (.inr f_79)))))] ++ zW K V) ++ [(q_82, .inr (8, [.int 0, .null, .int 0, .int 0, .int 0, .null, .null, .null, .null, .null, .null, .null, .null, .null]))]) := hD
                                            refine W.widen (k := 555) (n := 10753) (by omega) (by omega) ?_
                                            refine lv_dup hx hb dX11_init_73 rfl ?_
                                            refine lv_iconst (v := (-1)) hx hb dX11_init_74 (by decide) ?_
                                            refine ccall (As := [.int (-1)]) (rest := [.ref q_82, .int 15, .ref q_3]) (k := 8) (X := [(h0, .inr (10, [.ref q_1, .ref q_2, .ref q_3, .null, .null, .null, .null, .null, .null])), (q_1, .inl (cA_1, 6, .inr (.inr (.inr (.inr (fun _ => none)))))), (q_2, .inl (cA_2, 4, .inr (.inr (.inr (.inr f_18))))), (q_3, .inl (cA_3, 32, .inr (.inr (.inr (.inr f_79)))))]) C (c_Table_init l D q_82 H.size (-1)) (by decide) mc_X9_init (zt_t1 30 rfl rfl) ⟨Nat.le_of_ble_eq_true rfl, Nat.le_of_ble_eq_true rfl⟩ ⟨Nat.le_of_ble_eq_true rfl, Nat.le_of_ble_eq_true rfl⟩ hl.1 (Nat.le_of_ble_eq_true rfl) dX11_init_75 hC hP hD hS hA hAr hK hE (fun K V H locs hC hP hD hS hAr hle hq => ?_)
                                            have hz := hz.add hle hq
                                            have hr_q_2 := hr_q_2.le hle
                                            have hr_q_3 := hr_q_3.le hle
                                            clear hle hq
                                            refine W.widen (k := 583) (n := 11302) (by omega) (by omega) ?_
                                            have hv := hz.get 0 rfl
                                            obtain ⟨i_83, hi⟩ := cat (X := [(h0, .inr (10, [.ref q_1, .ref q_2, .ref q_3, .null, .null, .null, .null, .null, .null])), (q_1, .inl (cA_1, 6, .inr (.inr (.inr (.inr (fun _ => none)))))), (q_2, .inl (cA_2, 4, .inr (.inr (.inr (.inr f_18))))), (q_3, .inl (cA_3, 32, .inr (.inr (.inr (.inr f_79)))))]) (V := V) hv
                                            rw [zF_8 hv.2.1] at hi
                                            refine va_astq hx hb hK hP hD hS 3 2 i_83 8 rfl rfl hi rfl (by unfold vp_in; decide +kernel) dX11_init_78 (fun H locs hP hD hS => ?_)
                                            have hP : va_P D vwCl ([(h0, .inr (10, [.ref q_1, .ref q_2, .ref q_3, .null, .null, .null, .null, .null, .null])), (q_1, .inl (cA_1, 6, .inr (.inr (.inr (.inr (fun _ => none)))))), (q_2, .inl (cA_2, 4, .inr (.inr (.inr (.inr f_18))))), (q_3, .inl (cA_3, 32, .inr (.inr (.inr (.inr (va_up f_79 15 (some q_82)))))))] ++ zW K V) H := hP
                                            have hD : va_D A ([(h0, .inr (10, [.ref q_1, .ref q_2, .ref q_3, .null, .null, .null, .null, .null, .null])), (q_1, .inl (cA_1, 6, .inr (.inr (.inr (.inr (fun _ => none)))))), (q_2, .inl (cA_2, 4, .inr (.inr (.inr (.inr f_18))))), (q_3, .inl (cA_3, 32, .inr (.inr (.inr (.inr (va_up f_79 15 (some q_82)))))))] ++ zW K V) := hD
                                            have hr_q_3 := hr_q_3.push hv
                                            generalize va_up f_79 15 (some q_82) = f_83 at hP hD hr_q_3
                                            clear hv hi
                                            have hz : zats K [] := fun q h => hz q (List.mem_cons_of_mem _ h)
                                            refine lv_iinc (v := 16) (lv' := [(1, .int 16), (0, .ref h0)]) hx hb dX11_init_79 hl (k := 0) rfl (by decide) (by decide) rfl (fun ls hl => ?_)
                                            refine lv_goto (tgt := 59) hx hb dX11_init_82 (by decide) ?_
                                            refine lv_iload_n hx hb dX11_init_59 rfl (lv_at hl 0 rfl) ?_
                                            refine lv_bipush (v := 32) hx hb dX11_init_60 (by decide) ?_
                                            refine lv_icmp_ge (tgt := 85) hx hb dX11_init_62 (by decide) (fun c_85 => ?_) (fun c_85 => ?_)
                                            · exact absurd c_85 (by decide +kernel)
                                            · skip
                                              refine lv_aload_n hx hb dX11_init_65 rfl (lv_at hl 1 rfl) ?_
                                              refine va_get (D := D) (ci := 10) (v := .ref q_3) (C := RX11) (T := TX11) (N := 9) hx hb hts in_10 hown hK hP 0 rfl rfl 2 (by decide) (hts (.fieldLink RX11 21 "CardTables" "kept" "[LCardTables$Table;") (zt_t2 59 rfl rfl)) (fun _ h9 => h9) rfl dX11_init_66 ?_
                                              refine lv_iload_n hx hb dX11_init_69 rfl (lv_at hl 0 rfl) ?_
                                              refine va_new (ci := 8) (fs := [.int 0, .null, .int 0, .int 0, .int 0, .null, .null, .null, .null, .null, .null, .null, .null, .null]) (C := RX9) (T := TX9) (N := 14) hx hb hts in_8 tyX9 tyX9_ok hown (hts (.classLink RX11 15 RX9) (zt_t1 27 rfl rfl)) (hts (.instantiable RX9 14) (zt_t1 29 rfl rfl)) (hts (.initialized RX9) (zt_t1 2 rfl rfl)) hK hP hD hS hA rfl (fun j hj => by rcases (show j = 0 ∨ j = 1 ∨ j = 2 ∨ j = 3 ∨ j = 4 ∨ j = 5 ∨ j = 6 ∨ j = 7 ∨ j = 8 ∨ j = 9 ∨ j = 10 ∨ j = 11 ∨ j = 12 ∨ j = 13 by omega) with rfl | rfl | rfl | rfl | rfl | rfl | rfl | rfl | rfl | rfl | rfl | rfl | rfl | rfl <;> rfl) (Nat.le_of_ble_eq_true rfl) (Nat.le_of_ble_eq_true rfl) dX11_init_70 (fun q_86 H hP hD hS => ?_)
                                              have hP : va_P D vwCl (([(h0, .inr (10, [.ref q_1, .ref q_2, .ref q_3, .null, .null, .null, .null, .null, .null])), (q_1, .inl (cA_1, 6, .inr (.inr (.inr (.inr (fun _ => none)))))), (q_2, .inl (cA_2, 4, .inr (.inr (.inr (.inr f_18))))), (q_3, .inl (cA_3, 32, .inr (.inr (.inr (.inr f_83)))))] ++ zW K V) ++ [(q_86, .inr (8, [.int 0, .null, .int 0, .int 0, .int 0, .null, .null, .null, .null, .null, .null, .null, .null, .null]))]) H := hP
                                              have hD : va_D A (([(h0, .inr (10, [.ref q_1, .ref q_2, .ref q_3, .null, .null, .null, .null, .null, .null])), (q_1, .inl (cA_1, 6, .inr (.inr (.inr (.inr (fun _ => none)))))), (q_2, .inl (cA_2, 4, .inr (.inr (.inr (.inr f_18))))), (q_3, .inl (cA_3, 32, .inr (.inr (.inr (.inr f_83)))))] ++ zW K V) ++ [(q_86, .inr (8, [.int 0, .null, .int 0, .int 0, .int 0, .null, .null, .null, .null, .null, .null, .null, .null, .null]))]) := hD
                                              refine W.widen (k := 584) (n := 11316) (by omega) (by omega) ?_
                                              refine lv_dup hx hb dX11_init_73 rfl ?_
                                              refine lv_iconst (v := (-1)) hx hb dX11_init_74 (by decide) ?_
                                              refine ccall (As := [.int (-1)]) (rest := [.ref q_86, .int 16, .ref q_3]) (k := 8) (X := [(h0, .inr (10, [.ref q_1, .ref q_2, .ref q_3, .null, .null, .null, .null, .null, .null])), (q_1, .inl (cA_1, 6, .inr (.inr (.inr (.inr (fun _ => none)))))), (q_2, .inl (cA_2, 4, .inr (.inr (.inr (.inr f_18))))), (q_3, .inl (cA_3, 32, .inr (.inr (.inr (.inr f_83)))))]) C (c_Table_init l D q_86 H.size (-1)) (by decide) mc_X9_init (zt_t1 30 rfl rfl) ⟨Nat.le_of_ble_eq_true rfl, Nat.le_of_ble_eq_true rfl⟩ ⟨Nat.le_of_ble_eq_true rfl, Nat.le_of_ble_eq_true rfl⟩ hl.1 (Nat.le_of_ble_eq_true rfl) dX11_init_75 hC hP hD hS hA hAr hK hE (fun K V H locs hC hP hD hS hAr hle hq => ?_)
                                              have hz := hz.add hle hq
                                              have hr_q_2 := hr_q_2.le hle
                                              have hr_q_3 := hr_q_3.le hle
                                              clear hle hq
                                              refine W.widen (k := 612) (n := 11865) (by omega) (by omega) ?_
                                              have hv := hz.get 0 rfl
                                              obtain ⟨i_87, hi⟩ := cat (X := [(h0, .inr (10, [.ref q_1, .ref q_2, .ref q_3, .null, .null, .null, .null, .null, .null])), (q_1, .inl (cA_1, 6, .inr (.inr (.inr (.inr (fun _ => none)))))), (q_2, .inl (cA_2, 4, .inr (.inr (.inr (.inr f_18))))), (q_3, .inl (cA_3, 32, .inr (.inr (.inr (.inr f_83)))))]) (V := V) hv
                                              rw [zF_8 hv.2.1] at hi
                                              refine va_astq hx hb hK hP hD hS 3 2 i_87 8 rfl rfl hi rfl (by unfold vp_in; decide +kernel) dX11_init_78 (fun H locs hP hD hS => ?_)
                                              have hP : va_P D vwCl ([(h0, .inr (10, [.ref q_1, .ref q_2, .ref q_3, .null, .null, .null, .null, .null, .null])), (q_1, .inl (cA_1, 6, .inr (.inr (.inr (.inr (fun _ => none)))))), (q_2, .inl (cA_2, 4, .inr (.inr (.inr (.inr f_18))))), (q_3, .inl (cA_3, 32, .inr (.inr (.inr (.inr (va_up f_83 16 (some q_86)))))))] ++ zW K V) H := hP
                                              have hD : va_D A ([(h0, .inr (10, [.ref q_1, .ref q_2, .ref q_3, .null, .null, .null, .null, .null, .null])), (q_1, .inl (cA_1, 6, .inr (.inr (.inr (.inr (fun _ => none)))))), (q_2, .inl (cA_2, 4, .inr (.inr (.inr (.inr f_18))))), (q_3, .inl (cA_3, 32, .inr (.inr (.inr (.inr (va_up f_83 16 (some q_86)))))))] ++ zW K V) := hD
                                              have hr_q_3 := hr_q_3.push hv
                                              generalize va_up f_83 16 (some q_86) = f_87 at hP hD hr_q_3
                                              clear hv hi
                                              have hz : zats K [] := fun q h => hz q (List.mem_cons_of_mem _ h)
                                              refine lv_iinc (v := 17) (lv' := [(1, .int 17), (0, .ref h0)]) hx hb dX11_init_79 hl (k := 0) rfl (by decide) (by decide) rfl (fun ls hl => ?_)
                                              refine lv_goto (tgt := 59) hx hb dX11_init_82 (by decide) ?_
                                              refine lv_iload_n hx hb dX11_init_59 rfl (lv_at hl 0 rfl) ?_
                                              refine lv_bipush (v := 32) hx hb dX11_init_60 (by decide) ?_
                                              refine lv_icmp_ge (tgt := 85) hx hb dX11_init_62 (by decide) (fun c_89 => ?_) (fun c_89 => ?_)
                                              · exact absurd c_89 (by decide +kernel)
                                              · skip
                                                refine lv_aload_n hx hb dX11_init_65 rfl (lv_at hl 1 rfl) ?_
                                                refine va_get (D := D) (ci := 10) (v := .ref q_3) (C := RX11) (T := TX11) (N := 9) hx hb hts in_10 hown hK hP 0 rfl rfl 2 (by decide) (hts (.fieldLink RX11 21 "CardTables" "kept" "[LCardTables$Table;") (zt_t2 59 rfl rfl)) (fun _ h9 => h9) rfl dX11_init_66 ?_
                                                refine lv_iload_n hx hb dX11_init_69 rfl (lv_at hl 0 rfl) ?_
                                                refine va_new (ci := 8) (fs := [.int 0, .null, .int 0, .int 0, .int 0, .null, .null, .null, .null, .null, .null, .null, .null, .null]) (C := RX9) (T := TX9) (N := 14) hx hb hts in_8 tyX9 tyX9_ok hown (hts (.classLink RX11 15 RX9) (zt_t1 27 rfl rfl)) (hts (.instantiable RX9 14) (zt_t1 29 rfl rfl)) (hts (.initialized RX9) (zt_t1 2 rfl rfl)) hK hP hD hS hA rfl (fun j hj => by rcases (show j = 0 ∨ j = 1 ∨ j = 2 ∨ j = 3 ∨ j = 4 ∨ j = 5 ∨ j = 6 ∨ j = 7 ∨ j = 8 ∨ j = 9 ∨ j = 10 ∨ j = 11 ∨ j = 12 ∨ j = 13 by omega) with rfl | rfl | rfl | rfl | rfl | rfl | rfl | rfl | rfl | rfl | rfl | rfl | rfl | rfl <;> rfl) (Nat.le_of_ble_eq_true rfl) (Nat.le_of_ble_eq_true rfl) dX11_init_70 (fun q_90 H hP hD hS => ?_)
                                                have hP : va_P D vwCl (([(h0, .inr (10, [.ref q_1, .ref q_2, .ref q_3, .null, .null, .null, .null, .null, .null])), (q_1, .inl (cA_1, 6, .inr (.inr (.inr (.inr (fun _ => none)))))), (q_2, .inl (cA_2, 4, .inr (.inr (.inr (.inr f_18))))), (q_3, .inl (cA_3, 32, .inr (.inr (.inr (.inr f_87)))))] ++ zW K V) ++ [(q_90, .inr (8, [.int 0, .null, .int 0, .int 0, .int 0, .null, .null, .null, .null, .null, .null, .null, .null, .null]))]) H := hP
                                                have hD : va_D A (([(h0, .inr (10, [.ref q_1, .ref q_2, .ref q_3, .null, .null, .null, .null, .null, .null])), (q_1, .inl (cA_1, 6, .inr (.inr (.inr (.inr (fun _ => none)))))), (q_2, .inl (cA_2, 4, .inr (.inr (.inr (.inr f_18))))), (q_3, .inl (cA_3, 32, .inr (.inr (.inr (.inr f_87)))))] ++ zW K V) ++ [(q_90, .inr (8, [.int 0, .null, .int 0, .int 0, .int 0, .null, .null, .null, .null, .null, .null, .null, .null, .null]))]) := hD
                                                refine W.widen (k := 613) (n := 11879) (by omega) (by omega) ?_
                                                refine lv_dup hx hb dX11_init_73 rfl ?_
                                                refine lv_iconst (v := (-1)) hx hb dX11_init_74 (by decide) ?_
                                                refine ccall (As := [.int (-1)]) (rest := [.ref q_90, .int 17, .ref q_3]) (k := 8) (X := [(h0, .inr (10, [.ref q_1, .ref q_2, .ref q_3, .null, .null, .null, .null, .null, .null])), (q_1, .inl (cA_1, 6, .inr (.inr (.inr (.inr (fun _ => none)))))), (q_2, .inl (cA_2, 4, .inr (.inr (.inr (.inr f_18))))), (q_3, .inl (cA_3, 32, .inr (.inr (.inr (.inr f_87)))))]) C (c_Table_init l D q_90 H.size (-1)) (by decide) mc_X9_init (zt_t1 30 rfl rfl) ⟨Nat.le_of_ble_eq_true rfl, Nat.le_of_ble_eq_true rfl⟩ ⟨Nat.le_of_ble_eq_true rfl, Nat.le_of_ble_eq_true rfl⟩ hl.1 (Nat.le_of_ble_eq_true rfl) dX11_init_75 hC hP hD hS hA hAr hK hE (fun K V H locs hC hP hD hS hAr hle hq => ?_)
                                                have hz := hz.add hle hq
                                                have hr_q_2 := hr_q_2.le hle
                                                have hr_q_3 := hr_q_3.le hle
                                                clear hle hq
                                                refine W.widen (k := 641) (n := 12428) (by omega) (by omega) ?_
                                                have hv := hz.get 0 rfl
                                                obtain ⟨i_91, hi⟩ := cat (X := [(h0, .inr (10, [.ref q_1, .ref q_2, .ref q_3, .null, .null, .null, .null, .null, .null])), (q_1, .inl (cA_1, 6, .inr (.inr (.inr (.inr (fun _ => none)))))), (q_2, .inl (cA_2, 4, .inr (.inr (.inr (.inr f_18))))), (q_3, .inl (cA_3, 32, .inr (.inr (.inr (.inr f_87)))))]) (V := V) hv
                                                rw [zF_8 hv.2.1] at hi
                                                refine va_astq hx hb hK hP hD hS 3 2 i_91 8 rfl rfl hi rfl (by unfold vp_in; decide +kernel) dX11_init_78 (fun H locs hP hD hS => ?_)
                                                have hP : va_P D vwCl ([(h0, .inr (10, [.ref q_1, .ref q_2, .ref q_3, .null, .null, .null, .null, .null, .null])), (q_1, .inl (cA_1, 6, .inr (.inr (.inr (.inr (fun _ => none)))))), (q_2, .inl (cA_2, 4, .inr (.inr (.inr (.inr f_18))))), (q_3, .inl (cA_3, 32, .inr (.inr (.inr (.inr (va_up f_87 17 (some q_90)))))))] ++ zW K V) H := hP
                                                have hD : va_D A ([(h0, .inr (10, [.ref q_1, .ref q_2, .ref q_3, .null, .null, .null, .null, .null, .null])), (q_1, .inl (cA_1, 6, .inr (.inr (.inr (.inr (fun _ => none)))))), (q_2, .inl (cA_2, 4, .inr (.inr (.inr (.inr f_18))))), (q_3, .inl (cA_3, 32, .inr (.inr (.inr (.inr (va_up f_87 17 (some q_90)))))))] ++ zW K V) := hD
                                                have hr_q_3 := hr_q_3.push hv
                                                generalize va_up f_87 17 (some q_90) = f_91 at hP hD hr_q_3
                                                clear hv hi
                                                have hz : zats K [] := fun q h => hz q (List.mem_cons_of_mem _ h)
                                                refine lv_iinc (v := 18) (lv' := [(1, .int 18), (0, .ref h0)]) hx hb dX11_init_79 hl (k := 0) rfl (by decide) (by decide) rfl (fun ls hl => ?_)
                                                refine lv_goto (tgt := 59) hx hb dX11_init_82 (by decide) ?_
                                                refine lv_iload_n hx hb dX11_init_59 rfl (lv_at hl 0 rfl) ?_
                                                refine lv_bipush (v := 32) hx hb dX11_init_60 (by decide) ?_
                                                refine lv_icmp_ge (tgt := 85) hx hb dX11_init_62 (by decide) (fun c_93 => ?_) (fun c_93 => ?_)
                                                · exact absurd c_93 (by decide +kernel)
                                                · skip
                                                  refine lv_aload_n hx hb dX11_init_65 rfl (lv_at hl 1 rfl) ?_
                                                  refine va_get (D := D) (ci := 10) (v := .ref q_3) (C := RX11) (T := TX11) (N := 9) hx hb hts in_10 hown hK hP 0 rfl rfl 2 (by decide) (hts (.fieldLink RX11 21 "CardTables" "kept" "[LCardTables$Table;") (zt_t2 59 rfl rfl)) (fun _ h9 => h9) rfl dX11_init_66 ?_
                                                  refine lv_iload_n hx hb dX11_init_69 rfl (lv_at hl 0 rfl) ?_
                                                  refine va_new (ci := 8) (fs := [.int 0, .null, .int 0, .int 0, .int 0, .null, .null, .null, .null, .null, .null, .null, .null, .null]) (C := RX9) (T := TX9) (N := 14) hx hb hts in_8 tyX9 tyX9_ok hown (hts (.classLink RX11 15 RX9) (zt_t1 27 rfl rfl)) (hts (.instantiable RX9 14) (zt_t1 29 rfl rfl)) (hts (.initialized RX9) (zt_t1 2 rfl rfl)) hK hP hD hS hA rfl (fun j hj => by rcases (show j = 0 ∨ j = 1 ∨ j = 2 ∨ j = 3 ∨ j = 4 ∨ j = 5 ∨ j = 6 ∨ j = 7 ∨ j = 8 ∨ j = 9 ∨ j = 10 ∨ j = 11 ∨ j = 12 ∨ j = 13 by omega) with rfl | rfl | rfl | rfl | rfl | rfl | rfl | rfl | rfl | rfl | rfl | rfl | rfl | rfl <;> rfl) (Nat.le_of_ble_eq_true rfl) (Nat.le_of_ble_eq_true rfl) dX11_init_70 (fun q_94 H hP hD hS => ?_)
                                                  have hP : va_P D vwCl (([(h0, .inr (10, [.ref q_1, .ref q_2, .ref q_3, .null, .null, .null, .null, .null, .null])), (q_1, .inl (cA_1, 6, .inr (.inr (.inr (.inr (fun _ => none)))))), (q_2, .inl (cA_2, 4, .inr (.inr (.inr (.inr f_18))))), (q_3, .inl (cA_3, 32, .inr (.inr (.inr (.inr f_91)))))] ++ zW K V) ++ [(q_94, .inr (8, [.int 0, .null, .int 0, .int 0, .int 0, .null, .null, .null, .null, .null, .null, .null, .null, .null]))]) H := hP
                                                  have hD : va_D A (([(h0, .inr (10, [.ref q_1, .ref q_2, .ref q_3, .null, .null, .null, .null, .null, .null])), (q_1, .inl (cA_1, 6, .inr (.inr (.inr (.inr (fun _ => none)))))), (q_2, .inl (cA_2, 4, .inr (.inr (.inr (.inr f_18))))), (q_3, .inl (cA_3, 32, .inr (.inr (.inr (.inr f_91)))))] ++ zW K V) ++ [(q_94, .inr (8, [.int 0, .null, .int 0, .int 0, .int 0, .null, .null, .null, .null, .null, .null, .null, .null, .null]))]) := hD
                                                  refine W.widen (k := 642) (n := 12442) (by omega) (by omega) ?_
                                                  refine lv_dup hx hb dX11_init_73 rfl ?_
                                                  refine lv_iconst (v := (-1)) hx hb dX11_init_74 (by decide) ?_
                                                  refine ccall (As := [.int (-1)]) (rest := [.ref q_94, .int 18, .ref q_3]) (k := 8) (X := [(h0, .inr (10, [.ref q_1, .ref q_2, .ref q_3, .null, .null, .null, .null, .null, .null])), (q_1, .inl (cA_1, 6, .inr (.inr (.inr (.inr (fun _ => none)))))), (q_2, .inl (cA_2, 4, .inr (.inr (.inr (.inr f_18))))), (q_3, .inl (cA_3, 32, .inr (.inr (.inr (.inr f_91)))))]) C (c_Table_init l D q_94 H.size (-1)) (by decide) mc_X9_init (zt_t1 30 rfl rfl) ⟨Nat.le_of_ble_eq_true rfl, Nat.le_of_ble_eq_true rfl⟩ ⟨Nat.le_of_ble_eq_true rfl, Nat.le_of_ble_eq_true rfl⟩ hl.1 (Nat.le_of_ble_eq_true rfl) dX11_init_75 hC hP hD hS hA hAr hK hE (fun K V H locs hC hP hD hS hAr hle hq => ?_)
                                                  have hz := hz.add hle hq
                                                  have hr_q_2 := hr_q_2.le hle
                                                  have hr_q_3 := hr_q_3.le hle
                                                  clear hle hq
                                                  refine W.widen (k := 670) (n := 12991) (by omega) (by omega) ?_
                                                  have hv := hz.get 0 rfl
                                                  obtain ⟨i_95, hi⟩ := cat (X := [(h0, .inr (10, [.ref q_1, .ref q_2, .ref q_3, .null, .null, .null, .null, .null, .null])), (q_1, .inl (cA_1, 6, .inr (.inr (.inr (.inr (fun _ => none)))))), (q_2, .inl (cA_2, 4, .inr (.inr (.inr (.inr f_18))))), (q_3, .inl (cA_3, 32, .inr (.inr (.inr (.inr f_91)))))]) (V := V) hv
                                                  rw [zF_8 hv.2.1] at hi
                                                  refine va_astq hx hb hK hP hD hS 3 2 i_95 8 rfl rfl hi rfl (by unfold vp_in; decide +kernel) dX11_init_78 (fun H locs hP hD hS => ?_)
                                                  have hP : va_P D vwCl ([(h0, .inr (10, [.ref q_1, .ref q_2, .ref q_3, .null, .null, .null, .null, .null, .null])), (q_1, .inl (cA_1, 6, .inr (.inr (.inr (.inr (fun _ => none)))))), (q_2, .inl (cA_2, 4, .inr (.inr (.inr (.inr f_18))))), (q_3, .inl (cA_3, 32, .inr (.inr (.inr (.inr (va_up f_91 18 (some q_94)))))))] ++ zW K V) H := hP
                                                  have hD : va_D A ([(h0, .inr (10, [.ref q_1, .ref q_2, .ref q_3, .null, .null, .null, .null, .null, .null])), (q_1, .inl (cA_1, 6, .inr (.inr (.inr (.inr (fun _ => none)))))), (q_2, .inl (cA_2, 4, .inr (.inr (.inr (.inr f_18))))), (q_3, .inl (cA_3, 32, .inr (.inr (.inr (.inr (va_up f_91 18 (some q_94)))))))] ++ zW K V) := hD
                                                  have hr_q_3 := hr_q_3.push hv
                                                  generalize va_up f_91 18 (some q_94) = f_95 at hP hD hr_q_3
                                                  clear hv hi
                                                  have hz : zats K [] := fun q h => hz q (List.mem_cons_of_mem _ h)
                                                  refine lv_iinc (v := 19) (lv' := [(1, .int 19), (0, .ref h0)]) hx hb dX11_init_79 hl (k := 0) rfl (by decide) (by decide) rfl (fun ls hl => ?_)
                                                  refine lv_goto (tgt := 59) hx hb dX11_init_82 (by decide) ?_
                                                  refine lv_iload_n hx hb dX11_init_59 rfl (lv_at hl 0 rfl) ?_
                                                  refine lv_bipush (v := 32) hx hb dX11_init_60 (by decide) ?_
                                                  refine lv_icmp_ge (tgt := 85) hx hb dX11_init_62 (by decide) (fun c_97 => ?_) (fun c_97 => ?_)
                                                  · exact absurd c_97 (by decide +kernel)
                                                  · skip
                                                    refine lv_aload_n hx hb dX11_init_65 rfl (lv_at hl 1 rfl) ?_
                                                    refine va_get (D := D) (ci := 10) (v := .ref q_3) (C := RX11) (T := TX11) (N := 9) hx hb hts in_10 hown hK hP 0 rfl rfl 2 (by decide) (hts (.fieldLink RX11 21 "CardTables" "kept" "[LCardTables$Table;") (zt_t2 59 rfl rfl)) (fun _ h9 => h9) rfl dX11_init_66 ?_
                                                    refine lv_iload_n hx hb dX11_init_69 rfl (lv_at hl 0 rfl) ?_
                                                    refine va_new (ci := 8) (fs := [.int 0, .null, .int 0, .int 0, .int 0, .null, .null, .null, .null, .null, .null, .null, .null, .null]) (C := RX9) (T := TX9) (N := 14) hx hb hts in_8 tyX9 tyX9_ok hown (hts (.classLink RX11 15 RX9) (zt_t1 27 rfl rfl)) (hts (.instantiable RX9 14) (zt_t1 29 rfl rfl)) (hts (.initialized RX9) (zt_t1 2 rfl rfl)) hK hP hD hS hA rfl (fun j hj => by rcases (show j = 0 ∨ j = 1 ∨ j = 2 ∨ j = 3 ∨ j = 4 ∨ j = 5 ∨ j = 6 ∨ j = 7 ∨ j = 8 ∨ j = 9 ∨ j = 10 ∨ j = 11 ∨ j = 12 ∨ j = 13 by omega) with rfl | rfl | rfl | rfl | rfl | rfl | rfl | rfl | rfl | rfl | rfl | rfl | rfl | rfl <;> rfl) (Nat.le_of_ble_eq_true rfl) (Nat.le_of_ble_eq_true rfl) dX11_init_70 (fun q_98 H hP hD hS => ?_)
                                                    have hP : va_P D vwCl (([(h0, .inr (10, [.ref q_1, .ref q_2, .ref q_3, .null, .null, .null, .null, .null, .null])), (q_1, .inl (cA_1, 6, .inr (.inr (.inr (.inr (fun _ => none)))))), (q_2, .inl (cA_2, 4, .inr (.inr (.inr (.inr f_18))))), (q_3, .inl (cA_3, 32, .inr (.inr (.inr (.inr f_95)))))] ++ zW K V) ++ [(q_98, .inr (8, [.int 0, .null, .int 0, .int 0, .int 0, .null, .null, .null, .null, .null, .null, .null, .null, .null]))]) H := hP
                                                    have hD : va_D A (([(h0, .inr (10, [.ref q_1, .ref q_2, .ref q_3, .null, .null, .null, .null, .null, .null])), (q_1, .inl (cA_1, 6, .inr (.inr (.inr (.inr (fun _ => none)))))), (q_2, .inl (cA_2, 4, .inr (.inr (.inr (.inr f_18))))), (q_3, .inl (cA_3, 32, .inr (.inr (.inr (.inr f_95)))))] ++ zW K V) ++ [(q_98, .inr (8, [.int 0, .null, .int 0, .int 0, .int 0, .null, .null, .null, .null, .null, .null, .null, .null, .null]))]) := hD
                                                    refine W.widen (k := 671) (n := 13005) (by omega) (by omega) ?_
                                                    refine lv_dup hx hb dX11_init_73 rfl ?_
                                                    refine lv_iconst (v := (-1)) hx hb dX11_init_74 (by decide) ?_
                                                    refine ccall (As := [.int (-1)]) (rest := [.ref q_98, .int 19, .ref q_3]) (k := 8) (X := [(h0, .inr (10, [.ref q_1, .ref q_2, .ref q_3, .null, .null, .null, .null, .null, .null])), (q_1, .inl (cA_1, 6, .inr (.inr (.inr (.inr (fun _ => none)))))), (q_2, .inl (cA_2, 4, .inr (.inr (.inr (.inr f_18))))), (q_3, .inl (cA_3, 32, .inr (.inr (.inr (.inr f_95)))))]) C (c_Table_init l D q_98 H.size (-1)) (by decide) mc_X9_init (zt_t1 30 rfl rfl) ⟨Nat.le_of_ble_eq_true rfl, Nat.le_of_ble_eq_true rfl⟩ ⟨Nat.le_of_ble_eq_true rfl, Nat.le_of_ble_eq_true rfl⟩ hl.1 (Nat.le_of_ble_eq_true rfl) dX11_init_75 hC hP hD hS hA hAr hK hE (fun K V H locs hC hP hD hS hAr hle hq => ?_)
                                                    have hz := hz.add hle hq
                                                    have hr_q_2 := hr_q_2.le hle
                                                    have hr_q_3 := hr_q_3.le hle
                                                    clear hle hq
                                                    refine W.widen (k := 699) (n := 13554) (by omega) (by omega) ?_
                                                    have hv := hz.get 0 rfl
                                                    obtain ⟨i_99, hi⟩ := cat (X := [(h0, .inr (10, [.ref q_1, .ref q_2, .ref q_3, .null, .null, .null, .null, .null, .null])), (q_1, .inl (cA_1, 6, .inr (.inr (.inr (.inr (fun _ => none)))))), (q_2, .inl (cA_2, 4, .inr (.inr (.inr (.inr f_18))))), (q_3, .inl (cA_3, 32, .inr (.inr (.inr (.inr f_95)))))]) (V := V) hv
                                                    rw [zF_8 hv.2.1] at hi
                                                    refine va_astq hx hb hK hP hD hS 3 2 i_99 8 rfl rfl hi rfl (by unfold vp_in; decide +kernel) dX11_init_78 (fun H locs hP hD hS => ?_)
                                                    have hP : va_P D vwCl ([(h0, .inr (10, [.ref q_1, .ref q_2, .ref q_3, .null, .null, .null, .null, .null, .null])), (q_1, .inl (cA_1, 6, .inr (.inr (.inr (.inr (fun _ => none)))))), (q_2, .inl (cA_2, 4, .inr (.inr (.inr (.inr f_18))))), (q_3, .inl (cA_3, 32, .inr (.inr (.inr (.inr (va_up f_95 19 (some q_98)))))))] ++ zW K V) H := hP
                                                    have hD : va_D A ([(h0, .inr (10, [.ref q_1, .ref q_2, .ref q_3, .null, .null, .null, .null, .null, .null])), (q_1, .inl (cA_1, 6, .inr (.inr (.inr (.inr (fun _ => none)))))), (q_2, .inl (cA_2, 4, .inr (.inr (.inr (.inr f_18))))), (q_3, .inl (cA_3, 32, .inr (.inr (.inr (.inr (va_up f_95 19 (some q_98)))))))] ++ zW K V) := hD
                                                    have hr_q_3 := hr_q_3.push hv
                                                    generalize va_up f_95 19 (some q_98) = f_99 at hP hD hr_q_3
                                                    clear hv hi
                                                    have hz : zats K [] := fun q h => hz q (List.mem_cons_of_mem _ h)
                                                    refine lv_iinc (v := 20) (lv' := [(1, .int 20), (0, .ref h0)]) hx hb dX11_init_79 hl (k := 0) rfl (by decide) (by decide) rfl (fun ls hl => ?_)
                                                    refine lv_goto (tgt := 59) hx hb dX11_init_82 (by decide) ?_
                                                    refine lv_iload_n hx hb dX11_init_59 rfl (lv_at hl 0 rfl) ?_
                                                    refine lv_bipush (v := 32) hx hb dX11_init_60 (by decide) ?_
                                                    refine lv_icmp_ge (tgt := 85) hx hb dX11_init_62 (by decide) (fun c_101 => ?_) (fun c_101 => ?_)
                                                    · exact absurd c_101 (by decide +kernel)
                                                    · skip
                                                      refine lv_aload_n hx hb dX11_init_65 rfl (lv_at hl 1 rfl) ?_
                                                      refine va_get (D := D) (ci := 10) (v := .ref q_3) (C := RX11) (T := TX11) (N := 9) hx hb hts in_10 hown hK hP 0 rfl rfl 2 (by decide) (hts (.fieldLink RX11 21 "CardTables" "kept" "[LCardTables$Table;") (zt_t2 59 rfl rfl)) (fun _ h9 => h9) rfl dX11_init_66 ?_
                                                      refine lv_iload_n hx hb dX11_init_69 rfl (lv_at hl 0 rfl) ?_
                                                      refine va_new (ci := 8) (fs := [.int 0, .null, .int 0, .int 0, .int 0, .null, .null, .null, .null, .null, .null, .null, .null, .null]) (C := RX9) (T := TX9) (N := 14) hx hb hts in_8 tyX9 tyX9_ok hown (hts (.classLink RX11 15 RX9) (zt_t1 27 rfl rfl)) (hts (.instantiable RX9 14) (zt_t1 29 rfl rfl)) (hts (.initialized RX9) (zt_t1 2 rfl rfl)) hK hP hD hS hA rfl (fun j hj => by rcases (show j = 0 ∨ j = 1 ∨ j = 2 ∨ j = 3 ∨ j = 4 ∨ j = 5 ∨ j = 6 ∨ j = 7 ∨ j = 8 ∨ j = 9 ∨ j = 10 ∨ j = 11 ∨ j = 12 ∨ j = 13 by omega) with rfl | rfl | rfl | rfl | rfl | rfl | rfl | rfl | rfl | rfl | rfl | rfl | rfl | rfl <;> rfl) (Nat.le_of_ble_eq_true rfl) (Nat.le_of_ble_eq_true rfl) dX11_init_70 (fun q_102 H hP hD hS => ?_)
                                                      have hP : va_P D vwCl (([(h0, .inr (10, [.ref q_1, .ref q_2, .ref q_3, .null, .null, .null, .null, .null, .null])), (q_1, .inl (cA_1, 6, .inr (.inr (.inr (.inr (fun _ => none)))))), (q_2, .inl (cA_2, 4, .inr (.inr (.inr (.inr f_18))))), (q_3, .inl (cA_3, 32, .inr (.inr (.inr (.inr f_99)))))] ++ zW K V) ++ [(q_102, .inr (8, [.int 0, .null, .int 0, .int 0, .int 0, .null, .null, .null, .null, .null, .null, .null, .null, .null]))]) H := hP
                                                      have hD : va_D A (([(h0, .inr (10, [.ref q_1, .ref q_2, .ref q_3, .null, .null, .null, .null, .null, .null])), (q_1, .inl (cA_1, 6, .inr (.inr (.inr (.inr (fun _ => none)))))), (q_2, .inl (cA_2, 4, .inr (.inr (.inr (.inr f_18))))), (q_3, .inl (cA_3, 32, .inr (.inr (.inr (.inr f_99)))))] ++ zW K V) ++ [(q_102, .inr (8, [.int 0, .null, .int 0, .int 0, .int 0, .null, .null, .null, .null, .null, .null, .null, .null, .null]))]) := hD
                                                      refine W.widen (k := 700) (n := 13568) (by omega) (by omega) ?_
                                                      refine lv_dup hx hb dX11_init_73 rfl ?_
                                                      refine lv_iconst (v := (-1)) hx hb dX11_init_74 (by decide) ?_
                                                      refine ccall (As := [.int (-1)]) (rest := [.ref q_102, .int 20, .ref q_3]) (k := 8) (X := [(h0, .inr (10, [.ref q_1, .ref q_2, .ref q_3, .null, .null, .null, .null, .null, .null])), (q_1, .inl (cA_1, 6, .inr (.inr (.inr (.inr (fun _ => none)))))), (q_2, .inl (cA_2, 4, .inr (.inr (.inr (.inr f_18))))), (q_3, .inl (cA_3, 32, .inr (.inr (.inr (.inr f_99)))))]) C (c_Table_init l D q_102 H.size (-1)) (by decide) mc_X9_init (zt_t1 30 rfl rfl) ⟨Nat.le_of_ble_eq_true rfl, Nat.le_of_ble_eq_true rfl⟩ ⟨Nat.le_of_ble_eq_true rfl, Nat.le_of_ble_eq_true rfl⟩ hl.1 (Nat.le_of_ble_eq_true rfl) dX11_init_75 hC hP hD hS hA hAr hK hE (fun K V H locs hC hP hD hS hAr hle hq => ?_)
                                                      have hz := hz.add hle hq
                                                      have hr_q_2 := hr_q_2.le hle
                                                      have hr_q_3 := hr_q_3.le hle
                                                      clear hle hq
                                                      refine W.widen (k := 728) (n := 14117) (by omega) (by omega) ?_
                                                      have hv := hz.get 0 rfl
                                                      obtain ⟨i_103, hi⟩ := cat (X := [(h0, .inr (10, [.ref q_1, .ref q_2, .ref q_3, .null, .null, .null, .null, .null, .null])), (q_1, .inl (cA_1, 6, .inr (.inr (.inr (.inr (fun _ => none)))))), (q_2, .inl (cA_2, 4, .inr (.inr (.inr (.inr f_18))))), (q_3, .inl (cA_3, 32, .inr (.inr (.inr (.inr f_99)))))]) (V := V) hv
                                                      rw [zF_8 hv.2.1] at hi
                                                      refine va_astq hx hb hK hP hD hS 3 2 i_103 8 rfl rfl hi rfl (by unfold vp_in; decide +kernel) dX11_init_78 (fun H locs hP hD hS => ?_)
                                                      have hP : va_P D vwCl ([(h0, .inr (10, [.ref q_1, .ref q_2, .ref q_3, .null, .null, .null, .null, .null, .null])), (q_1, .inl (cA_1, 6, .inr (.inr (.inr (.inr (fun _ => none)))))), (q_2, .inl (cA_2, 4, .inr (.inr (.inr (.inr f_18))))), (q_3, .inl (cA_3, 32, .inr (.inr (.inr (.inr (va_up f_99 20 (some q_102)))))))] ++ zW K V) H := hP
                                                      have hD : va_D A ([(h0, .inr (10, [.ref q_1, .ref q_2, .ref q_3, .null, .null, .null, .null, .null, .null])), (q_1, .inl (cA_1, 6, .inr (.inr (.inr (.inr (fun _ => none)))))), (q_2, .inl (cA_2, 4, .inr (.inr (.inr (.inr f_18))))), (q_3, .inl (cA_3, 32, .inr (.inr (.inr (.inr (va_up f_99 20 (some q_102)))))))] ++ zW K V) := hD
                                                      have hr_q_3 := hr_q_3.push hv
                                                      generalize va_up f_99 20 (some q_102) = f_103 at hP hD hr_q_3
                                                      clear hv hi
                                                      have hz : zats K [] := fun q h => hz q (List.mem_cons_of_mem _ h)
                                                      refine lv_iinc (v := 21) (lv' := [(1, .int 21), (0, .ref h0)]) hx hb dX11_init_79 hl (k := 0) rfl (by decide) (by decide) rfl (fun ls hl => ?_)
                                                      refine lv_goto (tgt := 59) hx hb dX11_init_82 (by decide) ?_
                                                      refine lv_iload_n hx hb dX11_init_59 rfl (lv_at hl 0 rfl) ?_
                                                      refine lv_bipush (v := 32) hx hb dX11_init_60 (by decide) ?_
                                                      refine lv_icmp_ge (tgt := 85) hx hb dX11_init_62 (by decide) (fun c_105 => ?_) (fun c_105 => ?_)
                                                      · exact absurd c_105 (by decide +kernel)
                                                      · skip
                                                        refine lv_aload_n hx hb dX11_init_65 rfl (lv_at hl 1 rfl) ?_
                                                        refine va_get (D := D) (ci := 10) (v := .ref q_3) (C := RX11) (T := TX11) (N := 9) hx hb hts in_10 hown hK hP 0 rfl rfl 2 (by decide) (hts (.fieldLink RX11 21 "CardTables" "kept" "[LCardTables$Table;") (zt_t2 59 rfl rfl)) (fun _ h9 => h9) rfl dX11_init_66 ?_
                                                        refine lv_iload_n hx hb dX11_init_69 rfl (lv_at hl 0 rfl) ?_
                                                        refine va_new (ci := 8) (fs := [.int 0, .null, .int 0, .int 0, .int 0, .null, .null, .null, .null, .null, .null, .null, .null, .null]) (C := RX9) (T := TX9) (N := 14) hx hb hts in_8 tyX9 tyX9_ok hown (hts (.classLink RX11 15 RX9) (zt_t1 27 rfl rfl)) (hts (.instantiable RX9 14) (zt_t1 29 rfl rfl)) (hts (.initialized RX9) (zt_t1 2 rfl rfl)) hK hP hD hS hA rfl (fun j hj => by rcases (show j = 0 ∨ j = 1 ∨ j = 2 ∨ j = 3 ∨ j = 4 ∨ j = 5 ∨ j = 6 ∨ j = 7 ∨ j = 8 ∨ j = 9 ∨ j = 10 ∨ j = 11 ∨ j = 12 ∨ j = 13 by omega) with rfl | rfl | rfl | rfl | rfl | rfl | rfl | rfl | rfl | rfl | rfl | rfl | rfl | rfl <;> rfl) (Nat.le_of_ble_eq_true rfl) (Nat.le_of_ble_eq_true rfl) dX11_init_70 (fun q_106 H hP hD hS => ?_)
                                                        have hP : va_P D vwCl (([(h0, .inr (10, [.ref q_1, .ref q_2, .ref q_3, .null, .null, .null, .null, .null, .null])), (q_1, .inl (cA_1, 6, .inr (.inr (.inr (.inr (fun _ => none)))))), (q_2, .inl (cA_2, 4, .inr (.inr (.inr (.inr f_18))))), (q_3, .inl (cA_3, 32, .inr (.inr (.inr (.inr f_103)))))] ++ zW K V) ++ [(q_106, .inr (8, [.int 0, .null, .int 0, .int 0, .int 0, .null, .null, .null, .null, .null, .null, .null, .null, .null]))]) H := hP
                                                        have hD : va_D A (([(h0, .inr (10, [.ref q_1, .ref q_2, .ref q_3, .null, .null, .null, .null, .null, .null])), (q_1, .inl (cA_1, 6, .inr (.inr (.inr (.inr (fun _ => none)))))), (q_2, .inl (cA_2, 4, .inr (.inr (.inr (.inr f_18))))), (q_3, .inl (cA_3, 32, .inr (.inr (.inr (.inr f_103)))))] ++ zW K V) ++ [(q_106, .inr (8, [.int 0, .null, .int 0, .int 0, .int 0, .null, .null, .null, .null, .null, .null, .null, .null, .null]))]) := hD
                                                        refine W.widen (k := 729) (n := 14131) (by omega) (by omega) ?_
                                                        refine lv_dup hx hb dX11_init_73 rfl ?_
                                                        refine lv_iconst (v := (-1)) hx hb dX11_init_74 (by decide) ?_
                                                        refine ccall (As := [.int (-1)]) (rest := [.ref q_106, .int 21, .ref q_3]) (k := 8) (X := [(h0, .inr (10, [.ref q_1, .ref q_2, .ref q_3, .null, .null, .null, .null, .null, .null])), (q_1, .inl (cA_1, 6, .inr (.inr (.inr (.inr (fun _ => none)))))), (q_2, .inl (cA_2, 4, .inr (.inr (.inr (.inr f_18))))), (q_3, .inl (cA_3, 32, .inr (.inr (.inr (.inr f_103)))))]) C (c_Table_init l D q_106 H.size (-1)) (by decide) mc_X9_init (zt_t1 30 rfl rfl) ⟨Nat.le_of_ble_eq_true rfl, Nat.le_of_ble_eq_true rfl⟩ ⟨Nat.le_of_ble_eq_true rfl, Nat.le_of_ble_eq_true rfl⟩ hl.1 (Nat.le_of_ble_eq_true rfl) dX11_init_75 hC hP hD hS hA hAr hK hE (fun K V H locs hC hP hD hS hAr hle hq => ?_)
                                                        have hz := hz.add hle hq
                                                        have hr_q_2 := hr_q_2.le hle
                                                        have hr_q_3 := hr_q_3.le hle
                                                        clear hle hq
                                                        refine W.widen (k := 757) (n := 14680) (by omega) (by omega) ?_
                                                        have hv := hz.get 0 rfl
                                                        obtain ⟨i_107, hi⟩ := cat (X := [(h0, .inr (10, [.ref q_1, .ref q_2, .ref q_3, .null, .null, .null, .null, .null, .null])), (q_1, .inl (cA_1, 6, .inr (.inr (.inr (.inr (fun _ => none)))))), (q_2, .inl (cA_2, 4, .inr (.inr (.inr (.inr f_18))))), (q_3, .inl (cA_3, 32, .inr (.inr (.inr (.inr f_103)))))]) (V := V) hv
                                                        rw [zF_8 hv.2.1] at hi
                                                        refine va_astq hx hb hK hP hD hS 3 2 i_107 8 rfl rfl hi rfl (by unfold vp_in; decide +kernel) dX11_init_78 (fun H locs hP hD hS => ?_)
                                                        have hP : va_P D vwCl ([(h0, .inr (10, [.ref q_1, .ref q_2, .ref q_3, .null, .null, .null, .null, .null, .null])), (q_1, .inl (cA_1, 6, .inr (.inr (.inr (.inr (fun _ => none)))))), (q_2, .inl (cA_2, 4, .inr (.inr (.inr (.inr f_18))))), (q_3, .inl (cA_3, 32, .inr (.inr (.inr (.inr (va_up f_103 21 (some q_106)))))))] ++ zW K V) H := hP
                                                        have hD : va_D A ([(h0, .inr (10, [.ref q_1, .ref q_2, .ref q_3, .null, .null, .null, .null, .null, .null])), (q_1, .inl (cA_1, 6, .inr (.inr (.inr (.inr (fun _ => none)))))), (q_2, .inl (cA_2, 4, .inr (.inr (.inr (.inr f_18))))), (q_3, .inl (cA_3, 32, .inr (.inr (.inr (.inr (va_up f_103 21 (some q_106)))))))] ++ zW K V) := hD
                                                        have hr_q_3 := hr_q_3.push hv
                                                        generalize va_up f_103 21 (some q_106) = f_107 at hP hD hr_q_3
                                                        clear hv hi
                                                        have hz : zats K [] := fun q h => hz q (List.mem_cons_of_mem _ h)
                                                        refine lv_iinc (v := 22) (lv' := [(1, .int 22), (0, .ref h0)]) hx hb dX11_init_79 hl (k := 0) rfl (by decide) (by decide) rfl (fun ls hl => ?_)
                                                        refine lv_goto (tgt := 59) hx hb dX11_init_82 (by decide) ?_
                                                        refine lv_iload_n hx hb dX11_init_59 rfl (lv_at hl 0 rfl) ?_
                                                        refine lv_bipush (v := 32) hx hb dX11_init_60 (by decide) ?_
                                                        refine lv_icmp_ge (tgt := 85) hx hb dX11_init_62 (by decide) (fun c_109 => ?_) (fun c_109 => ?_)
                                                        · exact absurd c_109 (by decide +kernel)
                                                        · skip
                                                          refine lv_aload_n hx hb dX11_init_65 rfl (lv_at hl 1 rfl) ?_
                                                          refine va_get (D := D) (ci := 10) (v := .ref q_3) (C := RX11) (T := TX11) (N := 9) hx hb hts in_10 hown hK hP 0 rfl rfl 2 (by decide) (hts (.fieldLink RX11 21 "CardTables" "kept" "[LCardTables$Table;") (zt_t2 59 rfl rfl)) (fun _ h9 => h9) rfl dX11_init_66 ?_
                                                          refine lv_iload_n hx hb dX11_init_69 rfl (lv_at hl 0 rfl) ?_
                                                          refine va_new (ci := 8) (fs := [.int 0, .null, .int 0, .int 0, .int 0, .null, .null, .null, .null, .null, .null, .null, .null, .null]) (C := RX9) (T := TX9) (N := 14) hx hb hts in_8 tyX9 tyX9_ok hown (hts (.classLink RX11 15 RX9) (zt_t1 27 rfl rfl)) (hts (.instantiable RX9 14) (zt_t1 29 rfl rfl)) (hts (.initialized RX9) (zt_t1 2 rfl rfl)) hK hP hD hS hA rfl (fun j hj => by rcases (show j = 0 ∨ j = 1 ∨ j = 2 ∨ j = 3 ∨ j = 4 ∨ j = 5 ∨ j = 6 ∨ j = 7 ∨ j = 8 ∨ j = 9 ∨ j = 10 ∨ j = 11 ∨ j = 12 ∨ j = 13 by omega) with rfl | rfl | rfl | rfl | rfl | rfl | rfl | rfl | rfl | rfl | rfl | rfl | rfl | rfl <;> rfl) (Nat.le_of_ble_eq_true rfl) (Nat.le_of_ble_eq_true rfl) dX11_init_70 (fun q_110 H hP hD hS => ?_)
                                                          have hP : va_P D vwCl (([(h0, .inr (10, [.ref q_1, .ref q_2, .ref q_3, .null, .null, .null, .null, .null, .null])), (q_1, .inl (cA_1, 6, .inr (.inr (.inr (.inr (fun _ => none)))))), (q_2, .inl (cA_2, 4, .inr (.inr (.inr (.inr f_18))))), (q_3, .inl (cA_3, 32, .inr (.inr (.inr (.inr f_107)))))] ++ zW K V) ++ [(q_110, .inr (8, [.int 0, .null, .int 0, .int 0, .int 0, .null, .null, .null, .null, .null, .null, .null, .null, .null]))]) H := hP
                                                          have hD : va_D A (([(h0, .inr (10, [.ref q_1, .ref q_2, .ref q_3, .null, .null, .null, .null, .null, .null])), (q_1, .inl (cA_1, 6, .inr (.inr (.inr (.inr (fun _ => none)))))), (q_2, .inl (cA_2, 4, .inr (.inr (.inr (.inr f_18))))), (q_3, .inl (cA_3, 32, .inr (.inr (.inr (.inr f_107)))))] ++ zW K V) ++ [(q_110, .inr (8, [.int 0, .null, .int 0, .int 0, .int 0, .null, .null, .null, .null, .null, .null, .null, .null, .null]))]) := hD
                                                          refine W.widen (k := 758) (n := 14694) (by omega) (by omega) ?_
                                                          refine lv_dup hx hb dX11_init_73 rfl ?_
                                                          refine lv_iconst (v := (-1)) hx hb dX11_init_74 (by decide) ?_
                                                          refine ccall (As := [.int (-1)]) (rest := [.ref q_110, .int 22, .ref q_3]) (k := 8) (X := [(h0, .inr (10, [.ref q_1, .ref q_2, .ref q_3, .null, .null, .null, .null, .null, .null])), (q_1, .inl (cA_1, 6, .inr (.inr (.inr (.inr (fun _ => none)))))), (q_2, .inl (cA_2, 4, .inr (.inr (.inr (.inr f_18))))), (q_3, .inl (cA_3, 32, .inr (.inr (.inr (.inr f_107)))))]) C (c_Table_init l D q_110 H.size (-1)) (by decide) mc_X9_init (zt_t1 30 rfl rfl) ⟨Nat.le_of_ble_eq_true rfl, Nat.le_of_ble_eq_true rfl⟩ ⟨Nat.le_of_ble_eq_true rfl, Nat.le_of_ble_eq_true rfl⟩ hl.1 (Nat.le_of_ble_eq_true rfl) dX11_init_75 hC hP hD hS hA hAr hK hE (fun K V H locs hC hP hD hS hAr hle hq => ?_)
                                                          have hz := hz.add hle hq
                                                          have hr_q_2 := hr_q_2.le hle
                                                          have hr_q_3 := hr_q_3.le hle
                                                          clear hle hq
                                                          refine W.widen (k := 786) (n := 15243) (by omega) (by omega) ?_
                                                          have hv := hz.get 0 rfl
                                                          obtain ⟨i_111, hi⟩ := cat (X := [(h0, .inr (10, [.ref q_1, .ref q_2, .ref q_3, .null, .null, .null, .null, .null, .null])), (q_1, .inl (cA_1, 6, .inr (.inr (.inr (.inr (fun _ => none)))))), (q_2, .inl (cA_2, 4, .inr (.inr (.inr (.inr f_18))))), (q_3, .inl (cA_3, 32, .inr (.inr (.inr (.inr f_107)))))]) (V := V) hv
                                                          rw [zF_8 hv.2.1] at hi
                                                          refine va_astq hx hb hK hP hD hS 3 2 i_111 8 rfl rfl hi rfl (by unfold vp_in; decide +kernel) dX11_init_78 (fun H locs hP hD hS => ?_)
                                                          have hP : va_P D vwCl ([(h0, .inr (10, [.ref q_1, .ref q_2, .ref q_3, .null, .null, .null, .null, .null, .null])), (q_1, .inl (cA_1, 6, .inr (.inr (.inr (.inr (fun _ => none)))))), (q_2, .inl (cA_2, 4, .inr (.inr (.inr (.inr f_18))))), (q_3, .inl (cA_3, 32, .inr (.inr (.inr (.inr (va_up f_107 22 (some q_110)))))))] ++ zW K V) H := hP
                                                          have hD : va_D A ([(h0, .inr (10, [.ref q_1, .ref q_2, .ref q_3, .null, .null, .null, .null, .null, .null])), (q_1, .inl (cA_1, 6, .inr (.inr (.inr (.inr (fun _ => none)))))), (q_2, .inl (cA_2, 4, .inr (.inr (.inr (.inr f_18))))), (q_3, .inl (cA_3, 32, .inr (.inr (.inr (.inr (va_up f_107 22 (some q_110)))))))] ++ zW K V) := hD
                                                          have hr_q_3 := hr_q_3.push hv
                                                          generalize va_up f_107 22 (some q_110) = f_111 at hP hD hr_q_3
                                                          clear hv hi
                                                          have hz : zats K [] := fun q h => hz q (List.mem_cons_of_mem _ h)
                                                          refine lv_iinc (v := 23) (lv' := [(1, .int 23), (0, .ref h0)]) hx hb dX11_init_79 hl (k := 0) rfl (by decide) (by decide) rfl (fun ls hl => ?_)
                                                          refine lv_goto (tgt := 59) hx hb dX11_init_82 (by decide) ?_
                                                          refine lv_iload_n hx hb dX11_init_59 rfl (lv_at hl 0 rfl) ?_
                                                          refine lv_bipush (v := 32) hx hb dX11_init_60 (by decide) ?_
                                                          refine lv_icmp_ge (tgt := 85) hx hb dX11_init_62 (by decide) (fun c_113 => ?_) (fun c_113 => ?_)
                                                          · exact absurd c_113 (by decide +kernel)
                                                          · skip
                                                            refine lv_aload_n hx hb dX11_init_65 rfl (lv_at hl 1 rfl) ?_
                                                            refine va_get (D := D) (ci := 10) (v := .ref q_3) (C := RX11) (T := TX11) (N := 9) hx hb hts in_10 hown hK hP 0 rfl rfl 2 (by decide) (hts (.fieldLink RX11 21 "CardTables" "kept" "[LCardTables$Table;") (zt_t2 59 rfl rfl)) (fun _ h9 => h9) rfl dX11_init_66 ?_
                                                            refine lv_iload_n hx hb dX11_init_69 rfl (lv_at hl 0 rfl) ?_
                                                            refine va_new (ci := 8) (fs := [.int 0, .null, .int 0, .int 0, .int 0, .null, .null, .null, .null, .null, .null, .null, .null, .null]) (C := RX9) (T := TX9) (N := 14) hx hb hts in_8 tyX9 tyX9_ok hown (hts (.classLink RX11 15 RX9) (zt_t1 27 rfl rfl)) (hts (.instantiable RX9 14) (zt_t1 29 rfl rfl)) (hts (.initialized RX9) (zt_t1 2 rfl rfl)) hK hP hD hS hA rfl (fun j hj => by rcases (show j = 0 ∨ j = 1 ∨ j = 2 ∨ j = 3 ∨ j = 4 ∨ j = 5 ∨ j = 6 ∨ j = 7 ∨ j = 8 ∨ j = 9 ∨ j = 10 ∨ j = 11 ∨ j = 12 ∨ j = 13 by omega) with rfl | rfl | rfl | rfl | rfl | rfl | rfl | rfl | rfl | rfl | rfl | rfl | rfl | rfl <;> rfl) (Nat.le_of_ble_eq_true rfl) (Nat.le_of_ble_eq_true rfl) dX11_init_70 (fun q_114 H hP hD hS => ?_)
                                                            have hP : va_P D vwCl (([(h0, .inr (10, [.ref q_1, .ref q_2, .ref q_3, .null, .null, .null, .null, .null, .null])), (q_1, .inl (cA_1, 6, .inr (.inr (.inr (.inr (fun _ => none)))))), (q_2, .inl (cA_2, 4, .inr (.inr (.inr (.inr f_18))))), (q_3, .inl (cA_3, 32, .inr (.inr (.inr (.inr f_111)))))] ++ zW K V) ++ [(q_114, .inr (8, [.int 0, .null, .int 0, .int 0, .int 0, .null, .null, .null, .null, .null, .null, .null, .null, .null]))]) H := hP
                                                            have hD : va_D A (([(h0, .inr (10, [.ref q_1, .ref q_2, .ref q_3, .null, .null, .null, .null, .null, .null])), (q_1, .inl (cA_1, 6, .inr (.inr (.inr (.inr (fun _ => none)))))), (q_2, .inl (cA_2, 4, .inr (.inr (.inr (.inr f_18))))), (q_3, .inl (cA_3, 32, .inr (.inr (.inr (.inr f_111)))))] ++ zW K V) ++ [(q_114, .inr (8, [.int 0, .null, .int 0, .int 0, .int 0, .null, .null, .null, .null, .null, .null, .null, .null, .null]))]) := hD
                                                            refine W.widen (k := 787) (n := 15257) (by omega) (by omega) ?_
                                                            refine lv_dup hx hb dX11_init_73 rfl ?_
                                                            refine lv_iconst (v := (-1)) hx hb dX11_init_74 (by decide) ?_
                                                            refine ccall (As := [.int (-1)]) (rest := [.ref q_114, .int 23, .ref q_3]) (k := 8) (X := [(h0, .inr (10, [.ref q_1, .ref q_2, .ref q_3, .null, .null, .null, .null, .null, .null])), (q_1, .inl (cA_1, 6, .inr (.inr (.inr (.inr (fun _ => none)))))), (q_2, .inl (cA_2, 4, .inr (.inr (.inr (.inr f_18))))), (q_3, .inl (cA_3, 32, .inr (.inr (.inr (.inr f_111)))))]) C (c_Table_init l D q_114 H.size (-1)) (by decide) mc_X9_init (zt_t1 30 rfl rfl) ⟨Nat.le_of_ble_eq_true rfl, Nat.le_of_ble_eq_true rfl⟩ ⟨Nat.le_of_ble_eq_true rfl, Nat.le_of_ble_eq_true rfl⟩ hl.1 (Nat.le_of_ble_eq_true rfl) dX11_init_75 hC hP hD hS hA hAr hK hE (fun K V H locs hC hP hD hS hAr hle hq => ?_)
                                                            have hz := hz.add hle hq
                                                            have hr_q_2 := hr_q_2.le hle
                                                            have hr_q_3 := hr_q_3.le hle
                                                            clear hle hq
                                                            refine W.widen (k := 815) (n := 15806) (by omega) (by omega) ?_
                                                            have hv := hz.get 0 rfl
                                                            obtain ⟨i_115, hi⟩ := cat (X := [(h0, .inr (10, [.ref q_1, .ref q_2, .ref q_3, .null, .null, .null, .null, .null, .null])), (q_1, .inl (cA_1, 6, .inr (.inr (.inr (.inr (fun _ => none)))))), (q_2, .inl (cA_2, 4, .inr (.inr (.inr (.inr f_18))))), (q_3, .inl (cA_3, 32, .inr (.inr (.inr (.inr f_111)))))]) (V := V) hv
                                                            rw [zF_8 hv.2.1] at hi
                                                            refine va_astq hx hb hK hP hD hS 3 2 i_115 8 rfl rfl hi rfl (by unfold vp_in; decide +kernel) dX11_init_78 (fun H locs hP hD hS => ?_)
                                                            have hP : va_P D vwCl ([(h0, .inr (10, [.ref q_1, .ref q_2, .ref q_3, .null, .null, .null, .null, .null, .null])), (q_1, .inl (cA_1, 6, .inr (.inr (.inr (.inr (fun _ => none)))))), (q_2, .inl (cA_2, 4, .inr (.inr (.inr (.inr f_18))))), (q_3, .inl (cA_3, 32, .inr (.inr (.inr (.inr (va_up f_111 23 (some q_114)))))))] ++ zW K V) H := hP
                                                            have hD : va_D A ([(h0, .inr (10, [.ref q_1, .ref q_2, .ref q_3, .null, .null, .null, .null, .null, .null])), (q_1, .inl (cA_1, 6, .inr (.inr (.inr (.inr (fun _ => none)))))), (q_2, .inl (cA_2, 4, .inr (.inr (.inr (.inr f_18))))), (q_3, .inl (cA_3, 32, .inr (.inr (.inr (.inr (va_up f_111 23 (some q_114)))))))] ++ zW K V) := hD
                                                            have hr_q_3 := hr_q_3.push hv
                                                            generalize va_up f_111 23 (some q_114) = f_115 at hP hD hr_q_3
                                                            clear hv hi
                                                            have hz : zats K [] := fun q h => hz q (List.mem_cons_of_mem _ h)
                                                            refine lv_iinc (v := 24) (lv' := [(1, .int 24), (0, .ref h0)]) hx hb dX11_init_79 hl (k := 0) rfl (by decide) (by decide) rfl (fun ls hl => ?_)
                                                            refine lv_goto (tgt := 59) hx hb dX11_init_82 (by decide) ?_
                                                            refine lv_iload_n hx hb dX11_init_59 rfl (lv_at hl 0 rfl) ?_
                                                            refine lv_bipush (v := 32) hx hb dX11_init_60 (by decide) ?_
                                                            refine lv_icmp_ge (tgt := 85) hx hb dX11_init_62 (by decide) (fun c_117 => ?_) (fun c_117 => ?_)
                                                            · exact absurd c_117 (by decide +kernel)
                                                            · skip
                                                              refine lv_aload_n hx hb dX11_init_65 rfl (lv_at hl 1 rfl) ?_
                                                              refine va_get (D := D) (ci := 10) (v := .ref q_3) (C := RX11) (T := TX11) (N := 9) hx hb hts in_10 hown hK hP 0 rfl rfl 2 (by decide) (hts (.fieldLink RX11 21 "CardTables" "kept" "[LCardTables$Table;") (zt_t2 59 rfl rfl)) (fun _ h9 => h9) rfl dX11_init_66 ?_
                                                              refine lv_iload_n hx hb dX11_init_69 rfl (lv_at hl 0 rfl) ?_
                                                              refine va_new (ci := 8) (fs := [.int 0, .null, .int 0, .int 0, .int 0, .null, .null, .null, .null, .null, .null, .null, .null, .null]) (C := RX9) (T := TX9) (N := 14) hx hb hts in_8 tyX9 tyX9_ok hown (hts (.classLink RX11 15 RX9) (zt_t1 27 rfl rfl)) (hts (.instantiable RX9 14) (zt_t1 29 rfl rfl)) (hts (.initialized RX9) (zt_t1 2 rfl rfl)) hK hP hD hS hA rfl (fun j hj => by rcases (show j = 0 ∨ j = 1 ∨ j = 2 ∨ j = 3 ∨ j = 4 ∨ j = 5 ∨ j = 6 ∨ j = 7 ∨ j = 8 ∨ j = 9 ∨ j = 10 ∨ j = 11 ∨ j = 12 ∨ j = 13 by omega) with rfl | rfl | rfl | rfl | rfl | rfl | rfl | rfl | rfl | rfl | rfl | rfl | rfl | rfl <;> rfl) (Nat.le_of_ble_eq_true rfl) (Nat.le_of_ble_eq_true rfl) dX11_init_70 (fun q_118 H hP hD hS => ?_)
                                                              have hP : va_P D vwCl (([(h0, .inr (10, [.ref q_1, .ref q_2, .ref q_3, .null, .null, .null, .null, .null, .null])), (q_1, .inl (cA_1, 6, .inr (.inr (.inr (.inr (fun _ => none)))))), (q_2, .inl (cA_2, 4, .inr (.inr (.inr (.inr f_18))))), (q_3, .inl (cA_3, 32, .inr (.inr (.inr (.inr f_115)))))] ++ zW K V) ++ [(q_118, .inr (8, [.int 0, .null, .int 0, .int 0, .int 0, .null, .null, .null, .null, .null, .null, .null, .null, .null]))]) H := hP
                                                              have hD : va_D A (([(h0, .inr (10, [.ref q_1, .ref q_2, .ref q_3, .null, .null, .null, .null, .null, .null])), (q_1, .inl (cA_1, 6, .inr (.inr (.inr (.inr (fun _ => none)))))), (q_2, .inl (cA_2, 4, .inr (.inr (.inr (.inr f_18))))), (q_3, .inl (cA_3, 32, .inr (.inr (.inr (.inr f_115)))))] ++ zW K V) ++ [(q_118, .inr (8, [.int 0, .null, .int 0, .int 0, .int 0, .null, .null, .null, .null, .null, .null, .null, .null, .null]))]) := hD
                                                              refine W.widen (k := 816) (n := 15820) (by omega) (by omega) ?_
                                                              refine lv_dup hx hb dX11_init_73 rfl ?_
                                                              refine lv_iconst (v := (-1)) hx hb dX11_init_74 (by decide) ?_
                                                              refine ccall (As := [.int (-1)]) (rest := [.ref q_118, .int 24, .ref q_3]) (k := 8) (X := [(h0, .inr (10, [.ref q_1, .ref q_2, .ref q_3, .null, .null, .null, .null, .null, .null])), (q_1, .inl (cA_1, 6, .inr (.inr (.inr (.inr (fun _ => none)))))), (q_2, .inl (cA_2, 4, .inr (.inr (.inr (.inr f_18))))), (q_3, .inl (cA_3, 32, .inr (.inr (.inr (.inr f_115)))))]) C (c_Table_init l D q_118 H.size (-1)) (by decide) mc_X9_init (zt_t1 30 rfl rfl) ⟨Nat.le_of_ble_eq_true rfl, Nat.le_of_ble_eq_true rfl⟩ ⟨Nat.le_of_ble_eq_true rfl, Nat.le_of_ble_eq_true rfl⟩ hl.1 (Nat.le_of_ble_eq_true rfl) dX11_init_75 hC hP hD hS hA hAr hK hE (fun K V H locs hC hP hD hS hAr hle hq => ?_)
                                                              have hz := hz.add hle hq
                                                              have hr_q_2 := hr_q_2.le hle
                                                              have hr_q_3 := hr_q_3.le hle
                                                              clear hle hq
                                                              refine W.widen (k := 844) (n := 16369) (by omega) (by omega) ?_
                                                              have hv := hz.get 0 rfl
                                                              obtain ⟨i_119, hi⟩ := cat (X := [(h0, .inr (10, [.ref q_1, .ref q_2, .ref q_3, .null, .null, .null, .null, .null, .null])), (q_1, .inl (cA_1, 6, .inr (.inr (.inr (.inr (fun _ => none)))))), (q_2, .inl (cA_2, 4, .inr (.inr (.inr (.inr f_18))))), (q_3, .inl (cA_3, 32, .inr (.inr (.inr (.inr f_115)))))]) (V := V) hv
                                                              rw [zF_8 hv.2.1] at hi
                                                              refine va_astq hx hb hK hP hD hS 3 2 i_119 8 rfl rfl hi rfl (by unfold vp_in; decide +kernel) dX11_init_78 (fun H locs hP hD hS => ?_)
                                                              have hP : va_P D vwCl ([(h0, .inr (10, [.ref q_1, .ref q_2, .ref q_3, .null, .null, .null, .null, .null, .null])), (q_1, .inl (cA_1, 6, .inr (.inr (.inr (.inr (fun _ => none)))))), (q_2, .inl (cA_2, 4, .inr (.inr (.inr (.inr f_18))))), (q_3, .inl (cA_3, 32, .inr (.inr (.inr (.inr (va_up f_115 24 (some q_118)))))))] ++ zW K V) H := hP
                                                              have hD : va_D A ([(h0, .inr (10, [.ref q_1, .ref q_2, .ref q_3, .null, .null, .null, .null, .null, .null])), (q_1, .inl (cA_1, 6, .inr (.inr (.inr (.inr (fun _ => none)))))), (q_2, .inl (cA_2, 4, .inr (.inr (.inr (.inr f_18))))), (q_3, .inl (cA_3, 32, .inr (.inr (.inr (.inr (va_up f_115 24 (some q_118)))))))] ++ zW K V) := hD
                                                              have hr_q_3 := hr_q_3.push hv
                                                              generalize va_up f_115 24 (some q_118) = f_119 at hP hD hr_q_3
                                                              clear hv hi
                                                              have hz : zats K [] := fun q h => hz q (List.mem_cons_of_mem _ h)
                                                              refine lv_iinc (v := 25) (lv' := [(1, .int 25), (0, .ref h0)]) hx hb dX11_init_79 hl (k := 0) rfl (by decide) (by decide) rfl (fun ls hl => ?_)
                                                              refine lv_goto (tgt := 59) hx hb dX11_init_82 (by decide) ?_
                                                              refine lv_iload_n hx hb dX11_init_59 rfl (lv_at hl 0 rfl) ?_
                                                              refine lv_bipush (v := 32) hx hb dX11_init_60 (by decide) ?_
                                                              refine lv_icmp_ge (tgt := 85) hx hb dX11_init_62 (by decide) (fun c_121 => ?_) (fun c_121 => ?_)
                                                              · exact absurd c_121 (by decide +kernel)
                                                              · skip
                                                                refine lv_aload_n hx hb dX11_init_65 rfl (lv_at hl 1 rfl) ?_
                                                                refine va_get (D := D) (ci := 10) (v := .ref q_3) (C := RX11) (T := TX11) (N := 9) hx hb hts in_10 hown hK hP 0 rfl rfl 2 (by decide) (hts (.fieldLink RX11 21 "CardTables" "kept" "[LCardTables$Table;") (zt_t2 59 rfl rfl)) (fun _ h9 => h9) rfl dX11_init_66 ?_
                                                                refine lv_iload_n hx hb dX11_init_69 rfl (lv_at hl 0 rfl) ?_
                                                                refine va_new (ci := 8) (fs := [.int 0, .null, .int 0, .int 0, .int 0, .null, .null, .null, .null, .null, .null, .null, .null, .null]) (C := RX9) (T := TX9) (N := 14) hx hb hts in_8 tyX9 tyX9_ok hown (hts (.classLink RX11 15 RX9) (zt_t1 27 rfl rfl)) (hts (.instantiable RX9 14) (zt_t1 29 rfl rfl)) (hts (.initialized RX9) (zt_t1 2 rfl rfl)) hK hP hD hS hA rfl (fun j hj => by rcases (show j = 0 ∨ j = 1 ∨ j = 2 ∨ j = 3 ∨ j = 4 ∨ j = 5 ∨ j = 6 ∨ j = 7 ∨ j = 8 ∨ j = 9 ∨ j = 10 ∨ j = 11 ∨ j = 12 ∨ j = 13 by omega) with rfl | rfl | rfl | rfl | rfl | rfl | rfl | rfl | rfl | rfl | rfl | rfl | rfl | rfl <;> rfl) (Nat.le_of_ble_eq_true rfl) (Nat.le_of_ble_eq_true rfl) dX11_init_70 (fun q_122 H hP hD hS => ?_)
                                                                have hP : va_P D vwCl (([(h0, .inr (10, [.ref q_1, .ref q_2, .ref q_3, .null, .null, .null, .null, .null, .null])), (q_1, .inl (cA_1, 6, .inr (.inr (.inr (.inr (fun _ => none)))))), (q_2, .inl (cA_2, 4, .inr (.inr (.inr (.inr f_18))))), (q_3, .inl (cA_3, 32, .inr (.inr (.inr (.inr f_119)))))] ++ zW K V) ++ [(q_122, .inr (8, [.int 0, .null, .int 0, .int 0, .int 0, .null, .null, .null, .null, .null, .null, .null, .null, .null]))]) H := hP
                                                                have hD : va_D A (([(h0, .inr (10, [.ref q_1, .ref q_2, .ref q_3, .null, .null, .null, .null, .null, .null])), (q_1, .inl (cA_1, 6, .inr (.inr (.inr (.inr (fun _ => none)))))), (q_2, .inl (cA_2, 4, .inr (.inr (.inr (.inr f_18))))), (q_3, .inl (cA_3, 32, .inr (.inr (.inr (.inr f_119)))))] ++ zW K V) ++ [(q_122, .inr (8, [.int 0, .null, .int 0, .int 0, .int 0, .null, .null, .null, .null, .null, .null, .null, .null, .null]))]) := hD
                                                                refine W.widen (k := 845) (n := 16383) (by omega) (by omega) ?_
                                                                refine lv_dup hx hb dX11_init_73 rfl ?_
                                                                refine lv_iconst (v := (-1)) hx hb dX11_init_74 (by decide) ?_
                                                                refine ccall (As := [.int (-1)]) (rest := [.ref q_122, .int 25, .ref q_3]) (k := 8) (X := [(h0, .inr (10, [.ref q_1, .ref q_2, .ref q_3, .null, .null, .null, .null, .null, .null])), (q_1, .inl (cA_1, 6, .inr (.inr (.inr (.inr (fun _ => none)))))), (q_2, .inl (cA_2, 4, .inr (.inr (.inr (.inr f_18))))), (q_3, .inl (cA_3, 32, .inr (.inr (.inr (.inr f_119)))))]) C (c_Table_init l D q_122 H.size (-1)) (by decide) mc_X9_init (zt_t1 30 rfl rfl) ⟨Nat.le_of_ble_eq_true rfl, Nat.le_of_ble_eq_true rfl⟩ ⟨Nat.le_of_ble_eq_true rfl, Nat.le_of_ble_eq_true rfl⟩ hl.1 (Nat.le_of_ble_eq_true rfl) dX11_init_75 hC hP hD hS hA hAr hK hE (fun K V H locs hC hP hD hS hAr hle hq => ?_)
                                                                have hz := hz.add hle hq
                                                                have hr_q_2 := hr_q_2.le hle
                                                                have hr_q_3 := hr_q_3.le hle
                                                                clear hle hq
                                                                refine W.widen (k := 873) (n := 16932) (by omega) (by omega) ?_
                                                                have hv := hz.get 0 rfl
                                                                obtain ⟨i_123, hi⟩ := cat (X := [(h0, .inr (10, [.ref q_1, .ref q_2, .ref q_3, .null, .null, .null, .null, .null, .null])), (q_1, .inl (cA_1, 6, .inr (.inr (.inr (.inr (fun _ => none)))))), (q_2, .inl (cA_2, 4, .inr (.inr (.inr (.inr f_18))))), (q_3, .inl (cA_3, 32, .inr (.inr (.inr (.inr f_119)))))]) (V := V) hv
                                                                rw [zF_8 hv.2.1] at hi
                                                                refine va_astq hx hb hK hP hD hS 3 2 i_123 8 rfl rfl hi rfl (by unfold vp_in; decide +kernel) dX11_init_78 (fun H locs hP hD hS => ?_)
                                                                have hP : va_P D vwCl ([(h0, .inr (10, [.ref q_1, .ref q_2, .ref q_3, .null, .null, .null, .null, .null, .null])), (q_1, .inl (cA_1, 6, .inr (.inr (.inr (.inr (fun _ => none)))))), (q_2, .inl (cA_2, 4, .inr (.inr (.inr (.inr f_18))))), (q_3, .inl (cA_3, 32, .inr (.inr (.inr (.inr (va_up f_119 25 (some q_122)))))))] ++ zW K V) H := hP
                                                                have hD : va_D A ([(h0, .inr (10, [.ref q_1, .ref q_2, .ref q_3, .null, .null, .null, .null, .null, .null])), (q_1, .inl (cA_1, 6, .inr (.inr (.inr (.inr (fun _ => none)))))), (q_2, .inl (cA_2, 4, .inr (.inr (.inr (.inr f_18))))), (q_3, .inl (cA_3, 32, .inr (.inr (.inr (.inr (va_up f_119 25 (some q_122)))))))] ++ zW K V) := hD
                                                                have hr_q_3 := hr_q_3.push hv
                                                                generalize va_up f_119 25 (some q_122) = f_123 at hP hD hr_q_3
                                                                clear hv hi
                                                                have hz : zats K [] := fun q h => hz q (List.mem_cons_of_mem _ h)
                                                                refine lv_iinc (v := 26) (lv' := [(1, .int 26), (0, .ref h0)]) hx hb dX11_init_79 hl (k := 0) rfl (by decide) (by decide) rfl (fun ls hl => ?_)
                                                                refine lv_goto (tgt := 59) hx hb dX11_init_82 (by decide) ?_
                                                                refine lv_iload_n hx hb dX11_init_59 rfl (lv_at hl 0 rfl) ?_
                                                                refine lv_bipush (v := 32) hx hb dX11_init_60 (by decide) ?_
                                                                refine lv_icmp_ge (tgt := 85) hx hb dX11_init_62 (by decide) (fun c_125 => ?_) (fun c_125 => ?_)
                                                                · exact absurd c_125 (by decide +kernel)
                                                                · skip
                                                                  refine lv_aload_n hx hb dX11_init_65 rfl (lv_at hl 1 rfl) ?_
                                                                  refine va_get (D := D) (ci := 10) (v := .ref q_3) (C := RX11) (T := TX11) (N := 9) hx hb hts in_10 hown hK hP 0 rfl rfl 2 (by decide) (hts (.fieldLink RX11 21 "CardTables" "kept" "[LCardTables$Table;") (zt_t2 59 rfl rfl)) (fun _ h9 => h9) rfl dX11_init_66 ?_
                                                                  refine lv_iload_n hx hb dX11_init_69 rfl (lv_at hl 0 rfl) ?_
                                                                  refine va_new (ci := 8) (fs := [.int 0, .null, .int 0, .int 0, .int 0, .null, .null, .null, .null, .null, .null, .null, .null, .null]) (C := RX9) (T := TX9) (N := 14) hx hb hts in_8 tyX9 tyX9_ok hown (hts (.classLink RX11 15 RX9) (zt_t1 27 rfl rfl)) (hts (.instantiable RX9 14) (zt_t1 29 rfl rfl)) (hts (.initialized RX9) (zt_t1 2 rfl rfl)) hK hP hD hS hA rfl (fun j hj => by rcases (show j = 0 ∨ j = 1 ∨ j = 2 ∨ j = 3 ∨ j = 4 ∨ j = 5 ∨ j = 6 ∨ j = 7 ∨ j = 8 ∨ j = 9 ∨ j = 10 ∨ j = 11 ∨ j = 12 ∨ j = 13 by omega) with rfl | rfl | rfl | rfl | rfl | rfl | rfl | rfl | rfl | rfl | rfl | rfl | rfl | rfl <;> rfl) (Nat.le_of_ble_eq_true rfl) (Nat.le_of_ble_eq_true rfl) dX11_init_70 (fun q_126 H hP hD hS => ?_)
                                                                  have hP : va_P D vwCl (([(h0, .inr (10, [.ref q_1, .ref q_2, .ref q_3, .null, .null, .null, .null, .null, .null])), (q_1, .inl (cA_1, 6, .inr (.inr (.inr (.inr (fun _ => none)))))), (q_2, .inl (cA_2, 4, .inr (.inr (.inr (.inr f_18))))), (q_3, .inl (cA_3, 32, .inr (.inr (.inr (.inr f_123)))))] ++ zW K V) ++ [(q_126, .inr (8, [.int 0, .null, .int 0, .int 0, .int 0, .null, .null, .null, .null, .null, .null, .null, .null, .null]))]) H := hP
                                                                  have hD : va_D A (([(h0, .inr (10, [.ref q_1, .ref q_2, .ref q_3, .null, .null, .null, .null, .null, .null])), (q_1, .inl (cA_1, 6, .inr (.inr (.inr (.inr (fun _ => none)))))), (q_2, .inl (cA_2, 4, .inr (.inr (.inr (.inr f_18))))), (q_3, .inl (cA_3, 32, .inr (.inr (.inr (.inr f_123)))))] ++ zW K V) ++ [(q_126, .inr (8, [.int 0, .null, .int 0, .int 0, .int 0, .null, .null, .null, .null, .null, .null, .null, .null, .null]))]) := hD
                                                                  refine W.widen (k := 874) (n := 16946) (by omega) (by omega) ?_
                                                                  refine lv_dup hx hb dX11_init_73 rfl ?_
                                                                  refine lv_iconst (v := (-1)) hx hb dX11_init_74 (by decide) ?_
                                                                  refine ccall (As := [.int (-1)]) (rest := [.ref q_126, .int 26, .ref q_3]) (k := 8) (X := [(h0, .inr (10, [.ref q_1, .ref q_2, .ref q_3, .null, .null, .null, .null, .null, .null])), (q_1, .inl (cA_1, 6, .inr (.inr (.inr (.inr (fun _ => none)))))), (q_2, .inl (cA_2, 4, .inr (.inr (.inr (.inr f_18))))), (q_3, .inl (cA_3, 32, .inr (.inr (.inr (.inr f_123)))))]) C (c_Table_init l D q_126 H.size (-1)) (by decide) mc_X9_init (zt_t1 30 rfl rfl) ⟨Nat.le_of_ble_eq_true rfl, Nat.le_of_ble_eq_true rfl⟩ ⟨Nat.le_of_ble_eq_true rfl, Nat.le_of_ble_eq_true rfl⟩ hl.1 (Nat.le_of_ble_eq_true rfl) dX11_init_75 hC hP hD hS hA hAr hK hE (fun K V H locs hC hP hD hS hAr hle hq => ?_)
                                                                  have hz := hz.add hle hq
                                                                  have hr_q_2 := hr_q_2.le hle
                                                                  have hr_q_3 := hr_q_3.le hle
                                                                  clear hle hq
                                                                  refine W.widen (k := 902) (n := 17495) (by omega) (by omega) ?_
                                                                  have hv := hz.get 0 rfl
                                                                  obtain ⟨i_127, hi⟩ := cat (X := [(h0, .inr (10, [.ref q_1, .ref q_2, .ref q_3, .null, .null, .null, .null, .null, .null])), (q_1, .inl (cA_1, 6, .inr (.inr (.inr (.inr (fun _ => none)))))), (q_2, .inl (cA_2, 4, .inr (.inr (.inr (.inr f_18))))), (q_3, .inl (cA_3, 32, .inr (.inr (.inr (.inr f_123)))))]) (V := V) hv
                                                                  rw [zF_8 hv.2.1] at hi
                                                                  refine va_astq hx hb hK hP hD hS 3 2 i_127 8 rfl rfl hi rfl (by unfold vp_in; decide +kernel) dX11_init_78 (fun H locs hP hD hS => ?_)
                                                                  have hP : va_P D vwCl ([(h0, .inr (10, [.ref q_1, .ref q_2, .ref q_3, .null, .null, .null, .null, .null, .null])), (q_1, .inl (cA_1, 6, .inr (.inr (.inr (.inr (fun _ => none)))))), (q_2, .inl (cA_2, 4, .inr (.inr (.inr (.inr f_18))))), (q_3, .inl (cA_3, 32, .inr (.inr (.inr (.inr (va_up f_123 26 (some q_126)))))))] ++ zW K V) H := hP
                                                                  have hD : va_D A ([(h0, .inr (10, [.ref q_1, .ref q_2, .ref q_3, .null, .null, .null, .null, .null, .null])), (q_1, .inl (cA_1, 6, .inr (.inr (.inr (.inr (fun _ => none)))))), (q_2, .inl (cA_2, 4, .inr (.inr (.inr (.inr f_18))))), (q_3, .inl (cA_3, 32, .inr (.inr (.inr (.inr (va_up f_123 26 (some q_126)))))))] ++ zW K V) := hD
                                                                  have hr_q_3 := hr_q_3.push hv
                                                                  generalize va_up f_123 26 (some q_126) = f_127 at hP hD hr_q_3
                                                                  clear hv hi
                                                                  have hz : zats K [] := fun q h => hz q (List.mem_cons_of_mem _ h)
                                                                  refine lv_iinc (v := 27) (lv' := [(1, .int 27), (0, .ref h0)]) hx hb dX11_init_79 hl (k := 0) rfl (by decide) (by decide) rfl (fun ls hl => ?_)
                                                                  refine lv_goto (tgt := 59) hx hb dX11_init_82 (by decide) ?_
                                                                  refine lv_iload_n hx hb dX11_init_59 rfl (lv_at hl 0 rfl) ?_
                                                                  refine lv_bipush (v := 32) hx hb dX11_init_60 (by decide) ?_
                                                                  refine lv_icmp_ge (tgt := 85) hx hb dX11_init_62 (by decide) (fun c_129 => ?_) (fun c_129 => ?_)
                                                                  · exact absurd c_129 (by decide +kernel)
                                                                  · skip
                                                                    refine lv_aload_n hx hb dX11_init_65 rfl (lv_at hl 1 rfl) ?_
                                                                    refine va_get (D := D) (ci := 10) (v := .ref q_3) (C := RX11) (T := TX11) (N := 9) hx hb hts in_10 hown hK hP 0 rfl rfl 2 (by decide) (hts (.fieldLink RX11 21 "CardTables" "kept" "[LCardTables$Table;") (zt_t2 59 rfl rfl)) (fun _ h9 => h9) rfl dX11_init_66 ?_
                                                                    refine lv_iload_n hx hb dX11_init_69 rfl (lv_at hl 0 rfl) ?_
                                                                    refine va_new (ci := 8) (fs := [.int 0, .null, .int 0, .int 0, .int 0, .null, .null, .null, .null, .null, .null, .null, .null, .null]) (C := RX9) (T := TX9) (N := 14) hx hb hts in_8 tyX9 tyX9_ok hown (hts (.classLink RX11 15 RX9) (zt_t1 27 rfl rfl)) (hts (.instantiable RX9 14) (zt_t1 29 rfl rfl)) (hts (.initialized RX9) (zt_t1 2 rfl rfl)) hK hP hD hS hA rfl (fun j hj => by rcases (show j = 0 ∨ j = 1 ∨ j = 2 ∨ j = 3 ∨ j = 4 ∨ j = 5 ∨ j = 6 ∨ j = 7 ∨ j = 8 ∨ j = 9 ∨ j = 10 ∨ j = 11 ∨ j = 12 ∨ j = 13 by omega) with rfl | rfl | rfl | rfl | rfl | rfl | rfl | rfl | rfl | rfl | rfl | rfl | rfl | rfl <;> rfl) (Nat.le_of_ble_eq_true rfl) (Nat.le_of_ble_eq_true rfl) dX11_init_70 (fun q_130 H hP hD hS => ?_)
                                                                    have hP : va_P D vwCl (([(h0, .inr (10, [.ref q_1, .ref q_2, .ref q_3, .null, .null, .null, .null, .null, .null])), (q_1, .inl (cA_1, 6, .inr (.inr (.inr (.inr (fun _ => none)))))), (q_2, .inl (cA_2, 4, .inr (.inr (.inr (.inr f_18))))), (q_3, .inl (cA_3, 32, .inr (.inr (.inr (.inr f_127)))))] ++ zW K V) ++ [(q_130, .inr (8, [.int 0, .null, .int 0, .int 0, .int 0, .null, .null, .null, .null, .null, .null, .null, .null, .null]))]) H := hP
                                                                    have hD : va_D A (([(h0, .inr (10, [.ref q_1, .ref q_2, .ref q_3, .null, .null, .null, .null, .null, .null])), (q_1, .inl (cA_1, 6, .inr (.inr (.inr (.inr (fun _ => none)))))), (q_2, .inl (cA_2, 4, .inr (.inr (.inr (.inr f_18))))), (q_3, .inl (cA_3, 32, .inr (.inr (.inr (.inr f_127)))))] ++ zW K V) ++ [(q_130, .inr (8, [.int 0, .null, .int 0, .int 0, .int 0, .null, .null, .null, .null, .null, .null, .null, .null, .null]))]) := hD
                                                                    refine W.widen (k := 903) (n := 17509) (by omega) (by omega) ?_
                                                                    refine lv_dup hx hb dX11_init_73 rfl ?_
                                                                    refine lv_iconst (v := (-1)) hx hb dX11_init_74 (by decide) ?_
                                                                    refine ccall (As := [.int (-1)]) (rest := [.ref q_130, .int 27, .ref q_3]) (k := 8) (X := [(h0, .inr (10, [.ref q_1, .ref q_2, .ref q_3, .null, .null, .null, .null, .null, .null])), (q_1, .inl (cA_1, 6, .inr (.inr (.inr (.inr (fun _ => none)))))), (q_2, .inl (cA_2, 4, .inr (.inr (.inr (.inr f_18))))), (q_3, .inl (cA_3, 32, .inr (.inr (.inr (.inr f_127)))))]) C (c_Table_init l D q_130 H.size (-1)) (by decide) mc_X9_init (zt_t1 30 rfl rfl) ⟨Nat.le_of_ble_eq_true rfl, Nat.le_of_ble_eq_true rfl⟩ ⟨Nat.le_of_ble_eq_true rfl, Nat.le_of_ble_eq_true rfl⟩ hl.1 (Nat.le_of_ble_eq_true rfl) dX11_init_75 hC hP hD hS hA hAr hK hE (fun K V H locs hC hP hD hS hAr hle hq => ?_)
                                                                    have hz := hz.add hle hq
                                                                    have hr_q_2 := hr_q_2.le hle
                                                                    have hr_q_3 := hr_q_3.le hle
                                                                    clear hle hq
                                                                    refine W.widen (k := 931) (n := 18058) (by omega) (by omega) ?_
                                                                    have hv := hz.get 0 rfl
                                                                    obtain ⟨i_131, hi⟩ := cat (X := [(h0, .inr (10, [.ref q_1, .ref q_2, .ref q_3, .null, .null, .null, .null, .null, .null])), (q_1, .inl (cA_1, 6, .inr (.inr (.inr (.inr (fun _ => none)))))), (q_2, .inl (cA_2, 4, .inr (.inr (.inr (.inr f_18))))), (q_3, .inl (cA_3, 32, .inr (.inr (.inr (.inr f_127)))))]) (V := V) hv
                                                                    rw [zF_8 hv.2.1] at hi
                                                                    refine va_astq hx hb hK hP hD hS 3 2 i_131 8 rfl rfl hi rfl (by unfold vp_in; decide +kernel) dX11_init_78 (fun H locs hP hD hS => ?_)
                                                                    have hP : va_P D vwCl ([(h0, .inr (10, [.ref q_1, .ref q_2, .ref q_3, .null, .null, .null, .null, .null, .null])), (q_1, .inl (cA_1, 6, .inr (.inr (.inr (.inr (fun _ => none)))))), (q_2, .inl (cA_2, 4, .inr (.inr (.inr (.inr f_18))))), (q_3, .inl (cA_3, 32, .inr (.inr (.inr (.inr (va_up f_127 27 (some q_130)))))))] ++ zW K V) H := hP
                                                                    have hD : va_D A ([(h0, .inr (10, [.ref q_1, .ref q_2, .ref q_3, .null, .null, .null, .null, .null, .null])), (q_1, .inl (cA_1, 6, .inr (.inr (.inr (.inr (fun _ => none)))))), (q_2, .inl (cA_2, 4, .inr (.inr (.inr (.inr f_18))))), (q_3, .inl (cA_3, 32, .inr (.inr (.inr (.inr (va_up f_127 27 (some q_130)))))))] ++ zW K V) := hD
                                                                    have hr_q_3 := hr_q_3.push hv
                                                                    generalize va_up f_127 27 (some q_130) = f_131 at hP hD hr_q_3
                                                                    clear hv hi
                                                                    have hz : zats K [] := fun q h => hz q (List.mem_cons_of_mem _ h)
                                                                    refine lv_iinc (v := 28) (lv' := [(1, .int 28), (0, .ref h0)]) hx hb dX11_init_79 hl (k := 0) rfl (by decide) (by decide) rfl (fun ls hl => ?_)
                                                                    refine lv_goto (tgt := 59) hx hb dX11_init_82 (by decide) ?_
                                                                    refine lv_iload_n hx hb dX11_init_59 rfl (lv_at hl 0 rfl) ?_
                                                                    refine lv_bipush (v := 32) hx hb dX11_init_60 (by decide) ?_
                                                                    refine lv_icmp_ge (tgt := 85) hx hb dX11_init_62 (by decide) (fun c_133 => ?_) (fun c_133 => ?_)
                                                                    · exact absurd c_133 (by decide +kernel)
                                                                    · skip
                                                                      refine lv_aload_n hx hb dX11_init_65 rfl (lv_at hl 1 rfl) ?_
                                                                      refine va_get (D := D) (ci := 10) (v := .ref q_3) (C := RX11) (T := TX11) (N := 9) hx hb hts in_10 hown hK hP 0 rfl rfl 2 (by decide) (hts (.fieldLink RX11 21 "CardTables" "kept" "[LCardTables$Table;") (zt_t2 59 rfl rfl)) (fun _ h9 => h9) rfl dX11_init_66 ?_
                                                                      refine lv_iload_n hx hb dX11_init_69 rfl (lv_at hl 0 rfl) ?_
                                                                      refine va_new (ci := 8) (fs := [.int 0, .null, .int 0, .int 0, .int 0, .null, .null, .null, .null, .null, .null, .null, .null, .null]) (C := RX9) (T := TX9) (N := 14) hx hb hts in_8 tyX9 tyX9_ok hown (hts (.classLink RX11 15 RX9) (zt_t1 27 rfl rfl)) (hts (.instantiable RX9 14) (zt_t1 29 rfl rfl)) (hts (.initialized RX9) (zt_t1 2 rfl rfl)) hK hP hD hS hA rfl (fun j hj => by rcases (show j = 0 ∨ j = 1 ∨ j = 2 ∨ j = 3 ∨ j = 4 ∨ j = 5 ∨ j = 6 ∨ j = 7 ∨ j = 8 ∨ j = 9 ∨ j = 10 ∨ j = 11 ∨ j = 12 ∨ j = 13 by omega) with rfl | rfl | rfl | rfl | rfl | rfl | rfl | rfl | rfl | rfl | rfl | rfl | rfl | rfl <;> rfl) (Nat.le_of_ble_eq_true rfl) (Nat.le_of_ble_eq_true rfl) dX11_init_70 (fun q_134 H hP hD hS => ?_)
                                                                      have hP : va_P D vwCl (([(h0, .inr (10, [.ref q_1, .ref q_2, .ref q_3, .null, .null, .null, .null, .null, .null])), (q_1, .inl (cA_1, 6, .inr (.inr (.inr (.inr (fun _ => none)))))), (q_2, .inl (cA_2, 4, .inr (.inr (.inr (.inr f_18))))), (q_3, .inl (cA_3, 32, .inr (.inr (.inr (.inr f_131)))))] ++ zW K V) ++ [(q_134, .inr (8, [.int 0, .null, .int 0, .int 0, .int 0, .null, .null, .null, .null, .null, .null, .null, .null, .null]))]) H := hP
                                                                      have hD : va_D A (([(h0, .inr (10, [.ref q_1, .ref q_2, .ref q_3, .null, .null, .null, .null, .null, .null])), (q_1, .inl (cA_1, 6, .inr (.inr (.inr (.inr (fun _ => none)))))), (q_2, .inl (cA_2, 4, .inr (.inr (.inr (.inr f_18))))), (q_3, .inl (cA_3, 32, .inr (.inr (.inr (.inr f_131)))))] ++ zW K V) ++ [(q_134, .inr (8, [.int 0, .null, .int 0, .int 0, .int 0, .null, .null, .null, .null, .null, .null, .null, .null, .null]))]) := hD
                                                                      refine W.widen (k := 932) (n := 18072) (by omega) (by omega) ?_
                                                                      refine lv_dup hx hb dX11_init_73 rfl ?_
                                                                      refine lv_iconst (v := (-1)) hx hb dX11_init_74 (by decide) ?_
                                                                      refine ccall (As := [.int (-1)]) (rest := [.ref q_134, .int 28, .ref q_3]) (k := 8) (X := [(h0, .inr (10, [.ref q_1, .ref q_2, .ref q_3, .null, .null, .null, .null, .null, .null])), (q_1, .inl (cA_1, 6, .inr (.inr (.inr (.inr (fun _ => none)))))), (q_2, .inl (cA_2, 4, .inr (.inr (.inr (.inr f_18))))), (q_3, .inl (cA_3, 32, .inr (.inr (.inr (.inr f_131)))))]) C (c_Table_init l D q_134 H.size (-1)) (by decide) mc_X9_init (zt_t1 30 rfl rfl) ⟨Nat.le_of_ble_eq_true rfl, Nat.le_of_ble_eq_true rfl⟩ ⟨Nat.le_of_ble_eq_true rfl, Nat.le_of_ble_eq_true rfl⟩ hl.1 (Nat.le_of_ble_eq_true rfl) dX11_init_75 hC hP hD hS hA hAr hK hE (fun K V H locs hC hP hD hS hAr hle hq => ?_)
                                                                      have hz := hz.add hle hq
                                                                      have hr_q_2 := hr_q_2.le hle
                                                                      have hr_q_3 := hr_q_3.le hle
                                                                      clear hle hq
                                                                      refine W.widen (k := 960) (n := 18621) (by omega) (by omega) ?_
                                                                      have hv := hz.get 0 rfl
                                                                      obtain ⟨i_135, hi⟩ := cat (X := [(h0, .inr (10, [.ref q_1, .ref q_2, .ref q_3, .null, .null, .null, .null, .null, .null])), (q_1, .inl (cA_1, 6, .inr (.inr (.inr (.inr (fun _ => none)))))), (q_2, .inl (cA_2, 4, .inr (.inr (.inr (.inr f_18))))), (q_3, .inl (cA_3, 32, .inr (.inr (.inr (.inr f_131)))))]) (V := V) hv
                                                                      rw [zF_8 hv.2.1] at hi
                                                                      refine va_astq hx hb hK hP hD hS 3 2 i_135 8 rfl rfl hi rfl (by unfold vp_in; decide +kernel) dX11_init_78 (fun H locs hP hD hS => ?_)
                                                                      have hP : va_P D vwCl ([(h0, .inr (10, [.ref q_1, .ref q_2, .ref q_3, .null, .null, .null, .null, .null, .null])), (q_1, .inl (cA_1, 6, .inr (.inr (.inr (.inr (fun _ => none)))))), (q_2, .inl (cA_2, 4, .inr (.inr (.inr (.inr f_18))))), (q_3, .inl (cA_3, 32, .inr (.inr (.inr (.inr (va_up f_131 28 (some q_134)))))))] ++ zW K V) H := hP
                                                                      have hD : va_D A ([(h0, .inr (10, [.ref q_1, .ref q_2, .ref q_3, .null, .null, .null, .null, .null, .null])), (q_1, .inl (cA_1, 6, .inr (.inr (.inr (.inr (fun _ => none)))))), (q_2, .inl (cA_2, 4, .inr (.inr (.inr (.inr f_18))))), (q_3, .inl (cA_3, 32, .inr (.inr (.inr (.inr (va_up f_131 28 (some q_134)))))))] ++ zW K V) := hD
                                                                      have hr_q_3 := hr_q_3.push hv
                                                                      generalize va_up f_131 28 (some q_134) = f_135 at hP hD hr_q_3
                                                                      clear hv hi
                                                                      have hz : zats K [] := fun q h => hz q (List.mem_cons_of_mem _ h)
                                                                      refine lv_iinc (v := 29) (lv' := [(1, .int 29), (0, .ref h0)]) hx hb dX11_init_79 hl (k := 0) rfl (by decide) (by decide) rfl (fun ls hl => ?_)
                                                                      refine lv_goto (tgt := 59) hx hb dX11_init_82 (by decide) ?_
                                                                      refine lv_iload_n hx hb dX11_init_59 rfl (lv_at hl 0 rfl) ?_
                                                                      refine lv_bipush (v := 32) hx hb dX11_init_60 (by decide) ?_
                                                                      refine lv_icmp_ge (tgt := 85) hx hb dX11_init_62 (by decide) (fun c_137 => ?_) (fun c_137 => ?_)
                                                                      · exact absurd c_137 (by decide +kernel)
                                                                      · skip
                                                                        refine lv_aload_n hx hb dX11_init_65 rfl (lv_at hl 1 rfl) ?_
                                                                        refine va_get (D := D) (ci := 10) (v := .ref q_3) (C := RX11) (T := TX11) (N := 9) hx hb hts in_10 hown hK hP 0 rfl rfl 2 (by decide) (hts (.fieldLink RX11 21 "CardTables" "kept" "[LCardTables$Table;") (zt_t2 59 rfl rfl)) (fun _ h9 => h9) rfl dX11_init_66 ?_
                                                                        refine lv_iload_n hx hb dX11_init_69 rfl (lv_at hl 0 rfl) ?_
                                                                        refine va_new (ci := 8) (fs := [.int 0, .null, .int 0, .int 0, .int 0, .null, .null, .null, .null, .null, .null, .null, .null, .null]) (C := RX9) (T := TX9) (N := 14) hx hb hts in_8 tyX9 tyX9_ok hown (hts (.classLink RX11 15 RX9) (zt_t1 27 rfl rfl)) (hts (.instantiable RX9 14) (zt_t1 29 rfl rfl)) (hts (.initialized RX9) (zt_t1 2 rfl rfl)) hK hP hD hS hA rfl (fun j hj => by rcases (show j = 0 ∨ j = 1 ∨ j = 2 ∨ j = 3 ∨ j = 4 ∨ j = 5 ∨ j = 6 ∨ j = 7 ∨ j = 8 ∨ j = 9 ∨ j = 10 ∨ j = 11 ∨ j = 12 ∨ j = 13 by omega) with rfl | rfl | rfl | rfl | rfl | rfl | rfl | rfl | rfl | rfl | rfl | rfl | rfl | rfl <;> rfl) (Nat.le_of_ble_eq_true rfl) (Nat.le_of_ble_eq_true rfl) dX11_init_70 (fun q_138 H hP hD hS => ?_)
                                                                        have hP : va_P D vwCl (([(h0, .inr (10, [.ref q_1, .ref q_2, .ref q_3, .null, .null, .null, .null, .null, .null])), (q_1, .inl (cA_1, 6, .inr (.inr (.inr (.inr (fun _ => none)))))), (q_2, .inl (cA_2, 4, .inr (.inr (.inr (.inr f_18))))), (q_3, .inl (cA_3, 32, .inr (.inr (.inr (.inr f_135)))))] ++ zW K V) ++ [(q_138, .inr (8, [.int 0, .null, .int 0, .int 0, .int 0, .null, .null, .null, .null, .null, .null, .null, .null, .null]))]) H := hP
                                                                        have hD : va_D A (([(h0, .inr (10, [.ref q_1, .ref q_2, .ref q_3, .null, .null, .null, .null, .null, .null])), (q_1, .inl (cA_1, 6, .inr (.inr (.inr (.inr (fun _ => none)))))), (q_2, .inl (cA_2, 4, .inr (.inr (.inr (.inr f_18))))), (q_3, .inl (cA_3, 32, .inr (.inr (.inr (.inr f_135)))))] ++ zW K V) ++ [(q_138, .inr (8, [.int 0, .null, .int 0, .int 0, .int 0, .null, .null, .null, .null, .null, .null, .null, .null, .null]))]) := hD
                                                                        refine W.widen (k := 961) (n := 18635) (by omega) (by omega) ?_
                                                                        refine lv_dup hx hb dX11_init_73 rfl ?_
                                                                        refine lv_iconst (v := (-1)) hx hb dX11_init_74 (by decide) ?_
                                                                        refine ccall (As := [.int (-1)]) (rest := [.ref q_138, .int 29, .ref q_3]) (k := 8) (X := [(h0, .inr (10, [.ref q_1, .ref q_2, .ref q_3, .null, .null, .null, .null, .null, .null])), (q_1, .inl (cA_1, 6, .inr (.inr (.inr (.inr (fun _ => none)))))), (q_2, .inl (cA_2, 4, .inr (.inr (.inr (.inr f_18))))), (q_3, .inl (cA_3, 32, .inr (.inr (.inr (.inr f_135)))))]) C (c_Table_init l D q_138 H.size (-1)) (by decide) mc_X9_init (zt_t1 30 rfl rfl) ⟨Nat.le_of_ble_eq_true rfl, Nat.le_of_ble_eq_true rfl⟩ ⟨Nat.le_of_ble_eq_true rfl, Nat.le_of_ble_eq_true rfl⟩ hl.1 (Nat.le_of_ble_eq_true rfl) dX11_init_75 hC hP hD hS hA hAr hK hE (fun K V H locs hC hP hD hS hAr hle hq => ?_)
                                                                        have hz := hz.add hle hq
                                                                        have hr_q_2 := hr_q_2.le hle
                                                                        have hr_q_3 := hr_q_3.le hle
                                                                        clear hle hq
                                                                        refine W.widen (k := 989) (n := 19184) (by omega) (by omega) ?_
                                                                        have hv := hz.get 0 rfl
                                                                        obtain ⟨i_139, hi⟩ := cat (X := [(h0, .inr (10, [.ref q_1, .ref q_2, .ref q_3, .null, .null, .null, .null, .null, .null])), (q_1, .inl (cA_1, 6, .inr (.inr (.inr (.inr (fun _ => none)))))), (q_2, .inl (cA_2, 4, .inr (.inr (.inr (.inr f_18))))), (q_3, .inl (cA_3, 32, .inr (.inr (.inr (.inr f_135)))))]) (V := V) hv
                                                                        rw [zF_8 hv.2.1] at hi
                                                                        refine va_astq hx hb hK hP hD hS 3 2 i_139 8 rfl rfl hi rfl (by unfold vp_in; decide +kernel) dX11_init_78 (fun H locs hP hD hS => ?_)
                                                                        have hP : va_P D vwCl ([(h0, .inr (10, [.ref q_1, .ref q_2, .ref q_3, .null, .null, .null, .null, .null, .null])), (q_1, .inl (cA_1, 6, .inr (.inr (.inr (.inr (fun _ => none)))))), (q_2, .inl (cA_2, 4, .inr (.inr (.inr (.inr f_18))))), (q_3, .inl (cA_3, 32, .inr (.inr (.inr (.inr (va_up f_135 29 (some q_138)))))))] ++ zW K V) H := hP
                                                                        have hD : va_D A ([(h0, .inr (10, [.ref q_1, .ref q_2, .ref q_3, .null, .null, .null, .null, .null, .null])), (q_1, .inl (cA_1, 6, .inr (.inr (.inr (.inr (fun _ => none)))))), (q_2, .inl (cA_2, 4, .inr (.inr (.inr (.inr f_18))))), (q_3, .inl (cA_3, 32, .inr (.inr (.inr (.inr (va_up f_135 29 (some q_138)))))))] ++ zW K V) := hD
                                                                        have hr_q_3 := hr_q_3.push hv
                                                                        generalize va_up f_135 29 (some q_138) = f_139 at hP hD hr_q_3
                                                                        clear hv hi
                                                                        have hz : zats K [] := fun q h => hz q (List.mem_cons_of_mem _ h)
                                                                        refine lv_iinc (v := 30) (lv' := [(1, .int 30), (0, .ref h0)]) hx hb dX11_init_79 hl (k := 0) rfl (by decide) (by decide) rfl (fun ls hl => ?_)
                                                                        refine lv_goto (tgt := 59) hx hb dX11_init_82 (by decide) ?_
                                                                        refine lv_iload_n hx hb dX11_init_59 rfl (lv_at hl 0 rfl) ?_
                                                                        refine lv_bipush (v := 32) hx hb dX11_init_60 (by decide) ?_
                                                                        refine lv_icmp_ge (tgt := 85) hx hb dX11_init_62 (by decide) (fun c_141 => ?_) (fun c_141 => ?_)
                                                                        · exact absurd c_141 (by decide +kernel)
                                                                        · skip
                                                                          refine lv_aload_n hx hb dX11_init_65 rfl (lv_at hl 1 rfl) ?_
                                                                          refine va_get (D := D) (ci := 10) (v := .ref q_3) (C := RX11) (T := TX11) (N := 9) hx hb hts in_10 hown hK hP 0 rfl rfl 2 (by decide) (hts (.fieldLink RX11 21 "CardTables" "kept" "[LCardTables$Table;") (zt_t2 59 rfl rfl)) (fun _ h9 => h9) rfl dX11_init_66 ?_
                                                                          refine lv_iload_n hx hb dX11_init_69 rfl (lv_at hl 0 rfl) ?_
                                                                          refine va_new (ci := 8) (fs := [.int 0, .null, .int 0, .int 0, .int 0, .null, .null, .null, .null, .null, .null, .null, .null, .null]) (C := RX9) (T := TX9) (N := 14) hx hb hts in_8 tyX9 tyX9_ok hown (hts (.classLink RX11 15 RX9) (zt_t1 27 rfl rfl)) (hts (.instantiable RX9 14) (zt_t1 29 rfl rfl)) (hts (.initialized RX9) (zt_t1 2 rfl rfl)) hK hP hD hS hA rfl (fun j hj => by rcases (show j = 0 ∨ j = 1 ∨ j = 2 ∨ j = 3 ∨ j = 4 ∨ j = 5 ∨ j = 6 ∨ j = 7 ∨ j = 8 ∨ j = 9 ∨ j = 10 ∨ j = 11 ∨ j = 12 ∨ j = 13 by omega) with rfl | rfl | rfl | rfl | rfl | rfl | rfl | rfl | rfl | rfl | rfl | rfl | rfl | rfl <;> rfl) (Nat.le_of_ble_eq_true rfl) (Nat.le_of_ble_eq_true rfl) dX11_init_70 (fun q_142 H hP hD hS => ?_)
                                                                          have hP : va_P D vwCl (([(h0, .inr (10, [.ref q_1, .ref q_2, .ref q_3, .null, .null, .null, .null, .null, .null])), (q_1, .inl (cA_1, 6, .inr (.inr (.inr (.inr (fun _ => none)))))), (q_2, .inl (cA_2, 4, .inr (.inr (.inr (.inr f_18))))), (q_3, .inl (cA_3, 32, .inr (.inr (.inr (.inr f_139)))))] ++ zW K V) ++ [(q_142, .inr (8, [.int 0, .null, .int 0, .int 0, .int 0, .null, .null, .null, .null, .null, .null, .null, .null, .null]))]) H := hP
                                                                          have hD : va_D A (([(h0, .inr (10, [.ref q_1, .ref q_2, .ref q_3, .null, .null, .null, .null, .null, .null])), (q_1, .inl (cA_1, 6, .inr (.inr (.inr (.inr (fun _ => none)))))), (q_2, .inl (cA_2, 4, .inr (.inr (.inr (.inr f_18))))), (q_3, .inl (cA_3, 32, .inr (.inr (.inr (.inr f_139)))))] ++ zW K V) ++ [(q_142, .inr (8, [.int 0, .null, .int 0, .int 0, .int 0, .null, .null, .null, .null, .null, .null, .null, .null, .null]))]) := hD
                                                                          refine W.widen (k := 990) (n := 19198) (by omega) (by omega) ?_
                                                                          refine lv_dup hx hb dX11_init_73 rfl ?_
                                                                          refine lv_iconst (v := (-1)) hx hb dX11_init_74 (by decide) ?_
                                                                          refine ccall (As := [.int (-1)]) (rest := [.ref q_142, .int 30, .ref q_3]) (k := 8) (X := [(h0, .inr (10, [.ref q_1, .ref q_2, .ref q_3, .null, .null, .null, .null, .null, .null])), (q_1, .inl (cA_1, 6, .inr (.inr (.inr (.inr (fun _ => none)))))), (q_2, .inl (cA_2, 4, .inr (.inr (.inr (.inr f_18))))), (q_3, .inl (cA_3, 32, .inr (.inr (.inr (.inr f_139)))))]) C (c_Table_init l D q_142 H.size (-1)) (by decide) mc_X9_init (zt_t1 30 rfl rfl) ⟨Nat.le_of_ble_eq_true rfl, Nat.le_of_ble_eq_true rfl⟩ ⟨Nat.le_of_ble_eq_true rfl, Nat.le_of_ble_eq_true rfl⟩ hl.1 (Nat.le_of_ble_eq_true rfl) dX11_init_75 hC hP hD hS hA hAr hK hE (fun K V H locs hC hP hD hS hAr hle hq => ?_)
                                                                          have hz := hz.add hle hq
                                                                          have hr_q_2 := hr_q_2.le hle
                                                                          have hr_q_3 := hr_q_3.le hle
                                                                          clear hle hq
                                                                          refine W.widen (k := 1018) (n := 19747) (by omega) (by omega) ?_
                                                                          have hv := hz.get 0 rfl
                                                                          obtain ⟨i_143, hi⟩ := cat (X := [(h0, .inr (10, [.ref q_1, .ref q_2, .ref q_3, .null, .null, .null, .null, .null, .null])), (q_1, .inl (cA_1, 6, .inr (.inr (.inr (.inr (fun _ => none)))))), (q_2, .inl (cA_2, 4, .inr (.inr (.inr (.inr f_18))))), (q_3, .inl (cA_3, 32, .inr (.inr (.inr (.inr f_139)))))]) (V := V) hv
                                                                          rw [zF_8 hv.2.1] at hi
                                                                          refine va_astq hx hb hK hP hD hS 3 2 i_143 8 rfl rfl hi rfl (by unfold vp_in; decide +kernel) dX11_init_78 (fun H locs hP hD hS => ?_)
                                                                          have hP : va_P D vwCl ([(h0, .inr (10, [.ref q_1, .ref q_2, .ref q_3, .null, .null, .null, .null, .null, .null])), (q_1, .inl (cA_1, 6, .inr (.inr (.inr (.inr (fun _ => none)))))), (q_2, .inl (cA_2, 4, .inr (.inr (.inr (.inr f_18))))), (q_3, .inl (cA_3, 32, .inr (.inr (.inr (.inr (va_up f_139 30 (some q_142)))))))] ++ zW K V) H := hP
                                                                          have hD : va_D A ([(h0, .inr (10, [.ref q_1, .ref q_2, .ref q_3, .null, .null, .null, .null, .null, .null])), (q_1, .inl (cA_1, 6, .inr (.inr (.inr (.inr (fun _ => none)))))), (q_2, .inl (cA_2, 4, .inr (.inr (.inr (.inr f_18))))), (q_3, .inl (cA_3, 32, .inr (.inr (.inr (.inr (va_up f_139 30 (some q_142)))))))] ++ zW K V) := hD
                                                                          have hr_q_3 := hr_q_3.push hv
                                                                          generalize va_up f_139 30 (some q_142) = f_143 at hP hD hr_q_3
                                                                          clear hv hi
                                                                          have hz : zats K [] := fun q h => hz q (List.mem_cons_of_mem _ h)
                                                                          refine lv_iinc (v := 31) (lv' := [(1, .int 31), (0, .ref h0)]) hx hb dX11_init_79 hl (k := 0) rfl (by decide) (by decide) rfl (fun ls hl => ?_)
                                                                          refine lv_goto (tgt := 59) hx hb dX11_init_82 (by decide) ?_
                                                                          refine lv_iload_n hx hb dX11_init_59 rfl (lv_at hl 0 rfl) ?_
                                                                          refine lv_bipush (v := 32) hx hb dX11_init_60 (by decide) ?_
                                                                          refine lv_icmp_ge (tgt := 85) hx hb dX11_init_62 (by decide) (fun c_145 => ?_) (fun c_145 => ?_)
                                                                          · exact absurd c_145 (by decide +kernel)
                                                                          · skip
                                                                            refine lv_aload_n hx hb dX11_init_65 rfl (lv_at hl 1 rfl) ?_
                                                                            refine va_get (D := D) (ci := 10) (v := .ref q_3) (C := RX11) (T := TX11) (N := 9) hx hb hts in_10 hown hK hP 0 rfl rfl 2 (by decide) (hts (.fieldLink RX11 21 "CardTables" "kept" "[LCardTables$Table;") (zt_t2 59 rfl rfl)) (fun _ h9 => h9) rfl dX11_init_66 ?_
                                                                            refine lv_iload_n hx hb dX11_init_69 rfl (lv_at hl 0 rfl) ?_
                                                                            refine va_new (ci := 8) (fs := [.int 0, .null, .int 0, .int 0, .int 0, .null, .null, .null, .null, .null, .null, .null, .null, .null]) (C := RX9) (T := TX9) (N := 14) hx hb hts in_8 tyX9 tyX9_ok hown (hts (.classLink RX11 15 RX9) (zt_t1 27 rfl rfl)) (hts (.instantiable RX9 14) (zt_t1 29 rfl rfl)) (hts (.initialized RX9) (zt_t1 2 rfl rfl)) hK hP hD hS hA rfl (fun j hj => by rcases (show j = 0 ∨ j = 1 ∨ j = 2 ∨ j = 3 ∨ j = 4 ∨ j = 5 ∨ j = 6 ∨ j = 7 ∨ j = 8 ∨ j = 9 ∨ j = 10 ∨ j = 11 ∨ j = 12 ∨ j = 13 by omega) with rfl | rfl | rfl | rfl | rfl | rfl | rfl | rfl | rfl | rfl | rfl | rfl | rfl | rfl <;> rfl) (Nat.le_of_ble_eq_true rfl) (Nat.le_of_ble_eq_true rfl) dX11_init_70 (fun q_146 H hP hD hS => ?_)
                                                                            have hP : va_P D vwCl (([(h0, .inr (10, [.ref q_1, .ref q_2, .ref q_3, .null, .null, .null, .null, .null, .null])), (q_1, .inl (cA_1, 6, .inr (.inr (.inr (.inr (fun _ => none)))))), (q_2, .inl (cA_2, 4, .inr (.inr (.inr (.inr f_18))))), (q_3, .inl (cA_3, 32, .inr (.inr (.inr (.inr f_143)))))] ++ zW K V) ++ [(q_146, .inr (8, [.int 0, .null, .int 0, .int 0, .int 0, .null, .null, .null, .null, .null, .null, .null, .null, .null]))]) H := hP
                                                                            have hD : va_D A (([(h0, .inr (10, [.ref q_1, .ref q_2, .ref q_3, .null, .null, .null, .null, .null, .null])), (q_1, .inl (cA_1, 6, .inr (.inr (.inr (.inr (fun _ => none)))))), (q_2, .inl (cA_2, 4, .inr (.inr (.inr (.inr f_18))))), (q_3, .inl (cA_3, 32, .inr (.inr (.inr (.inr f_143)))))] ++ zW K V) ++ [(q_146, .inr (8, [.int 0, .null, .int 0, .int 0, .int 0, .null, .null, .null, .null, .null, .null, .null, .null, .null]))]) := hD
                                                                            refine W.widen (k := 1019) (n := 19761) (by omega) (by omega) ?_
                                                                            refine lv_dup hx hb dX11_init_73 rfl ?_
                                                                            refine lv_iconst (v := (-1)) hx hb dX11_init_74 (by decide) ?_
                                                                            refine ccall (As := [.int (-1)]) (rest := [.ref q_146, .int 31, .ref q_3]) (k := 8) (X := [(h0, .inr (10, [.ref q_1, .ref q_2, .ref q_3, .null, .null, .null, .null, .null, .null])), (q_1, .inl (cA_1, 6, .inr (.inr (.inr (.inr (fun _ => none)))))), (q_2, .inl (cA_2, 4, .inr (.inr (.inr (.inr f_18))))), (q_3, .inl (cA_3, 32, .inr (.inr (.inr (.inr f_143)))))]) C (c_Table_init l D q_146 H.size (-1)) (by decide) mc_X9_init (zt_t1 30 rfl rfl) ⟨Nat.le_of_ble_eq_true rfl, Nat.le_of_ble_eq_true rfl⟩ ⟨Nat.le_of_ble_eq_true rfl, Nat.le_of_ble_eq_true rfl⟩ hl.1 (Nat.le_of_ble_eq_true rfl) dX11_init_75 hC hP hD hS hA hAr hK hE (fun K V H locs hC hP hD hS hAr hle hq => ?_)
                                                                            have hz := hz.add hle hq
                                                                            have hr_q_2 := hr_q_2.le hle
                                                                            have hr_q_3 := hr_q_3.le hle
                                                                            clear hle hq
                                                                            refine W.widen (k := 1047) (n := 20310) (by omega) (by omega) ?_
                                                                            have hv := hz.get 0 rfl
                                                                            obtain ⟨i_147, hi⟩ := cat (X := [(h0, .inr (10, [.ref q_1, .ref q_2, .ref q_3, .null, .null, .null, .null, .null, .null])), (q_1, .inl (cA_1, 6, .inr (.inr (.inr (.inr (fun _ => none)))))), (q_2, .inl (cA_2, 4, .inr (.inr (.inr (.inr f_18))))), (q_3, .inl (cA_3, 32, .inr (.inr (.inr (.inr f_143)))))]) (V := V) hv
                                                                            rw [zF_8 hv.2.1] at hi
                                                                            refine va_astq hx hb hK hP hD hS 3 2 i_147 8 rfl rfl hi rfl (by unfold vp_in; decide +kernel) dX11_init_78 (fun H locs hP hD hS => ?_)
                                                                            have hP : va_P D vwCl ([(h0, .inr (10, [.ref q_1, .ref q_2, .ref q_3, .null, .null, .null, .null, .null, .null])), (q_1, .inl (cA_1, 6, .inr (.inr (.inr (.inr (fun _ => none)))))), (q_2, .inl (cA_2, 4, .inr (.inr (.inr (.inr f_18))))), (q_3, .inl (cA_3, 32, .inr (.inr (.inr (.inr (va_up f_143 31 (some q_146)))))))] ++ zW K V) H := hP
                                                                            have hD : va_D A ([(h0, .inr (10, [.ref q_1, .ref q_2, .ref q_3, .null, .null, .null, .null, .null, .null])), (q_1, .inl (cA_1, 6, .inr (.inr (.inr (.inr (fun _ => none)))))), (q_2, .inl (cA_2, 4, .inr (.inr (.inr (.inr f_18))))), (q_3, .inl (cA_3, 32, .inr (.inr (.inr (.inr (va_up f_143 31 (some q_146)))))))] ++ zW K V) := hD
                                                                            have hr_q_3 := hr_q_3.push hv
                                                                            generalize va_up f_143 31 (some q_146) = f_147 at hP hD hr_q_3
                                                                            clear hv hi
                                                                            have hz : zats K [] := fun q h => hz q (List.mem_cons_of_mem _ h)
                                                                            refine lv_iinc (v := 32) (lv' := [(1, .int 32), (0, .ref h0)]) hx hb dX11_init_79 hl (k := 0) rfl (by decide) (by decide) rfl (fun ls hl => ?_)
                                                                            refine lv_goto (tgt := 59) hx hb dX11_init_82 (by decide) ?_
                                                                            refine lv_iload_n hx hb dX11_init_59 rfl (lv_at hl 0 rfl) ?_
                                                                            refine lv_bipush (v := 32) hx hb dX11_init_60 (by decide) ?_
                                                                            refine lv_icmp_ge (tgt := 85) hx hb dX11_init_62 (by decide) (fun c_149 => ?_) (fun c_149 => ?_)
                                                                            · skip
                                                                              refine lv_aload_n hx hb dX11_init_85 rfl (lv_at hl 1 rfl) ?_
                                                                              refine lv_iconst (v := 4) hx hb dX11_init_86 (by decide) ?_
                                                                              refine va_newa (atype := .int) (a0 := (4, .inl (fun _ => 0))) (N' := 4) (ty := .int) hx hb (hts (.arrayClass .int) (zt_t1 58 rfl rfl)) rfl hK hP hD hS hA (fun _ => rfl) (by decide +kernel) (by decide +kernel) (by decide +kernel) (Nat.le_of_ble_eq_true rfl) (Nat.le_of_ble_eq_true rfl) dX11_init_87 (fun q_150 cA_150 H hK hP hD hS => ?_)
                                                                              have hA1 := hK.2 3 _ rfl
                                                                              have hK := hK.sub (tys' := [(cA_1, .object RX4), (cA_2, .object RX9), (cA_3, .object RX9)]) [0, 1, 2] rfl
                                                                              obtain ⟨K, V, hC, hP, hD, hAr, hle, hq⟩ := cnewE (X := [(h0, .inr (10, [.ref q_1, .ref q_2, .ref q_3, .null, .null, .null, .null, .null, .null])), (q_1, .inl (cA_1, 6, .inr (.inr (.inr (.inr (fun _ => none)))))), (q_2, .inl (cA_2, 4, .inr (.inr (.inr (.inr f_18))))), (q_3, .inl (cA_3, 32, .inr (.inr (.inr (.inr f_147)))))]) (k := 25) hC rfl (by decide) (fun _ _ _ => by decide +kernel) rfl hP hD hAr hA1
                                                                              have hz := hz.add hle hq
                                                                              have hr_q_2 := hr_q_2.le hle
                                                                              have hr_q_3 := hr_q_3.le hle
                                                                              clear hle hq
                                                                              refine W.widen (k := 1048) (n := 20314) (by omega) (by omega) ?_
                                                                              refine va_putF (D := D) (ci := 10) (v := .ref q_150) (ty := .array .int) (C := RX11) (T := TX11) (N := 9) hx hb hts in_10 tyX11 tyX11_ok nmX11 hown hK hP hD hS 0 rfl rfl 3 (by decide) (hts (.fieldLink RX11 27 "CardTables" "keptNext" "[I") (zt_t2 60 rfl rfl)) (fun _ h9 => h9) rfl hin rfl (by decide +kernel) rfl rfl (Nat.le_of_ble_eq_true rfl) dX11_init_89 (fun H locs hP hD hS => ?_)
                                                                              have hP : va_P D vwCl ([(h0, .inr (10, [.ref q_1, .ref q_2, .ref q_3, .ref q_150, .null, .null, .null, .null, .null])), (q_1, .inl (cA_1, 6, .inr (.inr (.inr (.inr (fun _ => none)))))), (q_2, .inl (cA_2, 4, .inr (.inr (.inr (.inr f_18))))), (q_3, .inl (cA_3, 32, .inr (.inr (.inr (.inr f_147)))))] ++ zW K V) H := hP
                                                                              have hD : va_D A ([(h0, .inr (10, [.ref q_1, .ref q_2, .ref q_3, .ref q_150, .null, .null, .null, .null, .null])), (q_1, .inl (cA_1, 6, .inr (.inr (.inr (.inr (fun _ => none)))))), (q_2, .inl (cA_2, 4, .inr (.inr (.inr (.inr f_18))))), (q_3, .inl (cA_3, 32, .inr (.inr (.inr (.inr f_147)))))] ++ zW K V) := hD
                                                                              refine lv_aload_n hx hb dX11_init_92 rfl (lv_at hl 1 rfl) ?_
                                                                              refine lv_iconst (v := 4) hx hb dX11_init_93 (by decide) ?_
                                                                              refine va_newa (atype := .int) (a0 := (4, .inl (fun _ => 0))) (N' := 4) (ty := .int) hx hb (hts (.arrayClass .int) (zt_t1 58 rfl rfl)) rfl hK hP hD hS hA (fun _ => rfl) (by decide +kernel) (by decide +kernel) (by decide +kernel) (Nat.le_of_ble_eq_true rfl) (Nat.le_of_ble_eq_true rfl) dX11_init_94 (fun q_151 cA_151 H hK hP hD hS => ?_)
                                                                              have hA1 := hK.2 3 _ rfl
                                                                              have hK := hK.sub (tys' := [(cA_1, .object RX4), (cA_2, .object RX9), (cA_3, .object RX9)]) [0, 1, 2] rfl
                                                                              obtain ⟨K, V, hC, hP, hD, hAr, hle, hq⟩ := cnewE (X := [(h0, .inr (10, [.ref q_1, .ref q_2, .ref q_3, .ref q_150, .null, .null, .null, .null, .null])), (q_1, .inl (cA_1, 6, .inr (.inr (.inr (.inr (fun _ => none)))))), (q_2, .inl (cA_2, 4, .inr (.inr (.inr (.inr f_18))))), (q_3, .inl (cA_3, 32, .inr (.inr (.inr (.inr f_147)))))]) (k := 20) hC rfl (by decide) (fun h => by cases h) rfl hP hD hAr hA1
                                                                              have hz := hz.add hle hq
                                                                              have hr_q_2 := hr_q_2.le hle
                                                                              have hr_q_3 := hr_q_3.le hle
                                                                              clear hle hq
                                                                              refine W.widen (k := 1049) (n := 20318) (by omega) (by omega) ?_
                                                                              refine va_putF (D := D) (ci := 10) (v := .ref q_151) (ty := .array .int) (C := RX11) (T := TX11) (N := 9) hx hb hts in_10 tyX11 tyX11_ok nmX11 hown hK hP hD hS 0 rfl rfl 4 (by decide) (hts (.fieldLink RX11 31 "CardTables" "keptCount" "[I") (zt_t2 61 rfl rfl)) (fun _ h9 => h9) rfl hin rfl (by decide +kernel) rfl rfl (Nat.le_of_ble_eq_true rfl) dX11_init_96 (fun H locs hP hD hS => ?_)
                                                                              have hP : va_P D vwCl ([(h0, .inr (10, [.ref q_1, .ref q_2, .ref q_3, .ref q_150, .ref q_151, .null, .null, .null, .null])), (q_1, .inl (cA_1, 6, .inr (.inr (.inr (.inr (fun _ => none)))))), (q_2, .inl (cA_2, 4, .inr (.inr (.inr (.inr f_18))))), (q_3, .inl (cA_3, 32, .inr (.inr (.inr (.inr f_147)))))] ++ zW K V) H := hP
                                                                              have hD : va_D A ([(h0, .inr (10, [.ref q_1, .ref q_2, .ref q_3, .ref q_150, .ref q_151, .null, .null, .null, .null])), (q_1, .inl (cA_1, 6, .inr (.inr (.inr (.inr (fun _ => none)))))), (q_2, .inl (cA_2, 4, .inr (.inr (.inr (.inr f_18))))), (q_3, .inl (cA_3, 32, .inr (.inr (.inr (.inr f_147)))))] ++ zW K V) := hD
                                                                              refine lv_aload_n hx hb dX11_init_99 rfl (lv_at hl 1 rfl) ?_
                                                                              refine va_new (ci := 8) (fs := [.int 0, .null, .int 0, .int 0, .int 0, .null, .null, .null, .null, .null, .null, .null, .null, .null]) (C := RX9) (T := TX9) (N := 14) hx hb hts in_8 tyX9 tyX9_ok hown (hts (.classLink RX11 15 RX9) (zt_t1 27 rfl rfl)) (hts (.instantiable RX9 14) (zt_t1 29 rfl rfl)) (hts (.initialized RX9) (zt_t1 2 rfl rfl)) hK hP hD hS hA rfl (fun j hj => by rcases (show j = 0 ∨ j = 1 ∨ j = 2 ∨ j = 3 ∨ j = 4 ∨ j = 5 ∨ j = 6 ∨ j = 7 ∨ j = 8 ∨ j = 9 ∨ j = 10 ∨ j = 11 ∨ j = 12 ∨ j = 13 by omega) with rfl | rfl | rfl | rfl | rfl | rfl | rfl | rfl | rfl | rfl | rfl | rfl | rfl | rfl <;> rfl) (Nat.le_of_ble_eq_true rfl) (Nat.le_of_ble_eq_true rfl) dX11_init_100 (fun q_152 H hP hD hS => ?_)
                                                                              have hP : va_P D vwCl (([(h0, .inr (10, [.ref q_1, .ref q_2, .ref q_3, .ref q_150, .ref q_151, .null, .null, .null, .null])), (q_1, .inl (cA_1, 6, .inr (.inr (.inr (.inr (fun _ => none)))))), (q_2, .inl (cA_2, 4, .inr (.inr (.inr (.inr f_18))))), (q_3, .inl (cA_3, 32, .inr (.inr (.inr (.inr f_147)))))] ++ zW K V) ++ [(q_152, .inr (8, [.int 0, .null, .int 0, .int 0, .int 0, .null, .null, .null, .null, .null, .null, .null, .null, .null]))]) H := hP
                                                                              have hD : va_D A (([(h0, .inr (10, [.ref q_1, .ref q_2, .ref q_3, .ref q_150, .ref q_151, .null, .null, .null, .null])), (q_1, .inl (cA_1, 6, .inr (.inr (.inr (.inr (fun _ => none)))))), (q_2, .inl (cA_2, 4, .inr (.inr (.inr (.inr f_18))))), (q_3, .inl (cA_3, 32, .inr (.inr (.inr (.inr f_147)))))] ++ zW K V) ++ [(q_152, .inr (8, [.int 0, .null, .int 0, .int 0, .int 0, .null, .null, .null, .null, .null, .null, .null, .null, .null]))]) := hD
                                                                              refine W.widen (k := 1050) (n := 20332) (by omega) (by omega) ?_
                                                                              refine lv_dup hx hb dX11_init_103 rfl ?_
                                                                              refine lv_iconst (v := (-1)) hx hb dX11_init_104 (by decide) ?_
                                                                              refine ccall (As := [.int (-1)]) (rest := [.ref q_152, .ref h0]) (k := 8) (X := [(h0, .inr (10, [.ref q_1, .ref q_2, .ref q_3, .ref q_150, .ref q_151, .null, .null, .null, .null])), (q_1, .inl (cA_1, 6, .inr (.inr (.inr (.inr (fun _ => none)))))), (q_2, .inl (cA_2, 4, .inr (.inr (.inr (.inr f_18))))), (q_3, .inl (cA_3, 32, .inr (.inr (.inr (.inr f_147)))))]) C (c_Table_init l D q_152 H.size (-1)) (by decide) mc_X9_init (zt_t1 30 rfl rfl) ⟨Nat.le_of_ble_eq_true rfl, Nat.le_of_ble_eq_true rfl⟩ ⟨Nat.le_of_ble_eq_true rfl, Nat.le_of_ble_eq_true rfl⟩ hl.1 (Nat.le_of_ble_eq_true rfl) dX11_init_105 hC hP hD hS hA hAr hK hE (fun K V H locs hC hP hD hS hAr hle hq => ?_)
                                                                              have hz := hz.add hle hq
                                                                              have hr_q_2 := hr_q_2.le hle
                                                                              have hr_q_3 := hr_q_3.le hle
                                                                              clear hle hq
                                                                              refine W.widen (k := 1078) (n := 20881) (by omega) (by omega) ?_
                                                                              refine va_putF (D := D) (ci := 10) (v := .ref q_152) (ty := .object "CardTables$Table") (C := RX11) (T := TX11) (N := 9) hx hb hts in_10 tyX11 tyX11_ok nmX11 hown hK hP hD hS 0 rfl rfl 5 (by decide) (hts (.fieldLink RX11 34 "CardTables" "aside" "LCardTables$Table;") (zt_t2 62 rfl rfl)) (fun _ h9 => h9) rfl hin rfl (by decide +kernel) rfl rfl (Nat.le_of_ble_eq_true rfl) dX11_init_108 (fun H locs hP hD hS => ?_)
                                                                              have hP : va_P D vwCl ([(h0, .inr (10, [.ref q_1, .ref q_2, .ref q_3, .ref q_150, .ref q_151, .ref q_152, .null, .null, .null])), (q_1, .inl (cA_1, 6, .inr (.inr (.inr (.inr (fun _ => none)))))), (q_2, .inl (cA_2, 4, .inr (.inr (.inr (.inr f_18))))), (q_3, .inl (cA_3, 32, .inr (.inr (.inr (.inr f_147)))))] ++ zW K V) H := hP
                                                                              have hD : va_D A ([(h0, .inr (10, [.ref q_1, .ref q_2, .ref q_3, .ref q_150, .ref q_151, .ref q_152, .null, .null, .null])), (q_1, .inl (cA_1, 6, .inr (.inr (.inr (.inr (fun _ => none)))))), (q_2, .inl (cA_2, 4, .inr (.inr (.inr (.inr f_18))))), (q_3, .inl (cA_3, 32, .inr (.inr (.inr (.inr f_147)))))] ++ zW K V) := hD
                                                                              refine lv_aload_n hx hb dX11_init_111 rfl (lv_at hl 1 rfl) ?_
                                                                              refine va_new (ci := 5) (fs := [.int 0, .null, .null, .int 0, .int 0, .int 0, .int 0]) (C := RX6) (T := TX6) (N := 7) hx hb hts in_5 tyX6 tyX6_ok hown (hts (.classLink RX11 38 RX6) (zt_t1 213 rfl rfl)) (hts (.instantiable RX6 7) (zt_t1 214 rfl rfl)) (hts (.initialized RX6) (zt_t1 6 rfl rfl)) hK hP hD hS hA rfl (fun j hj => by rcases (show j = 0 ∨ j = 1 ∨ j = 2 ∨ j = 3 ∨ j = 4 ∨ j = 5 ∨ j = 6 by omega) with rfl | rfl | rfl | rfl | rfl | rfl | rfl <;> rfl) (Nat.le_of_ble_eq_true rfl) (Nat.le_of_ble_eq_true rfl) dX11_init_112 (fun q_153 H hP hD hS => ?_)
                                                                              have hP : va_P D vwCl (([(h0, .inr (10, [.ref q_1, .ref q_2, .ref q_3, .ref q_150, .ref q_151, .ref q_152, .null, .null, .null])), (q_1, .inl (cA_1, 6, .inr (.inr (.inr (.inr (fun _ => none)))))), (q_2, .inl (cA_2, 4, .inr (.inr (.inr (.inr f_18))))), (q_3, .inl (cA_3, 32, .inr (.inr (.inr (.inr f_147)))))] ++ zW K V) ++ [(q_153, .inr (5, [.int 0, .null, .null, .int 0, .int 0, .int 0, .int 0]))]) H := hP
                                                                              have hD : va_D A (([(h0, .inr (10, [.ref q_1, .ref q_2, .ref q_3, .ref q_150, .ref q_151, .ref q_152, .null, .null, .null])), (q_1, .inl (cA_1, 6, .inr (.inr (.inr (.inr (fun _ => none)))))), (q_2, .inl (cA_2, 4, .inr (.inr (.inr (.inr f_18))))), (q_3, .inl (cA_3, 32, .inr (.inr (.inr (.inr f_147)))))] ++ zW K V) ++ [(q_153, .inr (5, [.int 0, .null, .null, .int 0, .int 0, .int 0, .int 0]))]) := hD
                                                                              refine W.widen (k := 1079) (n := 20888) (by omega) (by omega) ?_
                                                                              refine lv_dup hx hb dX11_init_115 rfl ?_
                                                                              refine lv_iconst (v := 0) hx hb dX11_init_116 (by decide) ?_
                                                                              refine ccall (As := [.int 0]) (rest := [.ref q_153, .ref h0]) (k := 5) (X := [(h0, .inr (10, [.ref q_1, .ref q_2, .ref q_3, .ref q_150, .ref q_151, .ref q_152, .null, .null, .null])), (q_1, .inl (cA_1, 6, .inr (.inr (.inr (.inr (fun _ => none)))))), (q_2, .inl (cA_2, 4, .inr (.inr (.inr (.inr f_18))))), (q_3, .inl (cA_3, 32, .inr (.inr (.inr (.inr f_147)))))]) C (c_Notes_init l D q_153 H.size 0 (by decide +kernel) (by decide +kernel)) (by decide) mc_X6_init (zt_t1 215 rfl rfl) ⟨Nat.le_of_ble_eq_true rfl, Nat.le_of_ble_eq_true rfl⟩ ⟨Nat.le_of_ble_eq_true rfl, Nat.le_of_ble_eq_true rfl⟩ hl.1 (Nat.le_of_ble_eq_true rfl) dX11_init_117 hC hP hD hS hA hAr hK hE (fun K V H locs hC hP hD hS hAr hle hq => ?_)
                                                                              have hz := hz.add hle hq
                                                                              have hr_q_2 := hr_q_2.le hle
                                                                              have hr_q_3 := hr_q_3.le hle
                                                                              clear hle hq
                                                                              refine W.widen (k := 1081) (n := 21248) (by omega) (by omega) ?_
                                                                              refine va_putF (D := D) (ci := 10) (v := .ref q_153) (ty := .object "CardTables$Notes") (C := RX11) (T := TX11) (N := 9) hx hb hts in_10 tyX11 tyX11_ok nmX11 hown hK hP hD hS 0 rfl rfl 6 (by decide) (hts (.fieldLink RX11 43 "CardTables" "notes" "LCardTables$Notes;") (zt_t2 63 rfl rfl)) (fun _ h9 => h9) rfl hin rfl (by decide +kernel) rfl rfl (Nat.le_of_ble_eq_true rfl) dX11_init_120 (fun H locs hP hD hS => ?_)
                                                                              have hP : va_P D vwCl ([(h0, .inr (10, [.ref q_1, .ref q_2, .ref q_3, .ref q_150, .ref q_151, .ref q_152, .ref q_153, .null, .null])), (q_1, .inl (cA_1, 6, .inr (.inr (.inr (.inr (fun _ => none)))))), (q_2, .inl (cA_2, 4, .inr (.inr (.inr (.inr f_18))))), (q_3, .inl (cA_3, 32, .inr (.inr (.inr (.inr f_147)))))] ++ zW K V) H := hP
                                                                              have hD : va_D A ([(h0, .inr (10, [.ref q_1, .ref q_2, .ref q_3, .ref q_150, .ref q_151, .ref q_152, .ref q_153, .null, .null])), (q_1, .inl (cA_1, 6, .inr (.inr (.inr (.inr (fun _ => none)))))), (q_2, .inl (cA_2, 4, .inr (.inr (.inr (.inr f_18))))), (q_3, .inl (cA_3, 32, .inr (.inr (.inr (.inr f_147)))))] ++ zW K V) := hD
                                                                              refine lv_aload_n hx hb dX11_init_123 rfl (lv_at hl 1 rfl) ?_
                                                                              refine va_new (ci := 5) (fs := [.int 0, .null, .null, .int 0, .int 0, .int 0, .int 0]) (C := RX6) (T := TX6) (N := 7) hx hb hts in_5 tyX6 tyX6_ok hown (hts (.classLink RX11 38 RX6) (zt_t1 213 rfl rfl)) (hts (.instantiable RX6 7) (zt_t1 214 rfl rfl)) (hts (.initialized RX6) (zt_t1 6 rfl rfl)) hK hP hD hS hA rfl (fun j hj => by rcases (show j = 0 ∨ j = 1 ∨ j = 2 ∨ j = 3 ∨ j = 4 ∨ j = 5 ∨ j = 6 by omega) with rfl | rfl | rfl | rfl | rfl | rfl | rfl <;> rfl) (Nat.le_of_ble_eq_true rfl) (Nat.le_of_ble_eq_true rfl) dX11_init_124 (fun q_154 H hP hD hS => ?_)
                                                                              have hP : va_P D vwCl (([(h0, .inr (10, [.ref q_1, .ref q_2, .ref q_3, .ref q_150, .ref q_151, .ref q_152, .ref q_153, .null, .null])), (q_1, .inl (cA_1, 6, .inr (.inr (.inr (.inr (fun _ => none)))))), (q_2, .inl (cA_2, 4, .inr (.inr (.inr (.inr f_18))))), (q_3, .inl (cA_3, 32, .inr (.inr (.inr (.inr f_147)))))] ++ zW K V) ++ [(q_154, .inr (5, [.int 0, .null, .null, .int 0, .int 0, .int 0, .int 0]))]) H := hP
                                                                              have hD : va_D A (([(h0, .inr (10, [.ref q_1, .ref q_2, .ref q_3, .ref q_150, .ref q_151, .ref q_152, .ref q_153, .null, .null])), (q_1, .inl (cA_1, 6, .inr (.inr (.inr (.inr (fun _ => none)))))), (q_2, .inl (cA_2, 4, .inr (.inr (.inr (.inr f_18))))), (q_3, .inl (cA_3, 32, .inr (.inr (.inr (.inr f_147)))))] ++ zW K V) ++ [(q_154, .inr (5, [.int 0, .null, .null, .int 0, .int 0, .int 0, .int 0]))]) := hD
                                                                              refine W.widen (k := 1082) (n := 21255) (by omega) (by omega) ?_
                                                                              refine lv_dup hx hb dX11_init_127 rfl ?_
                                                                              refine lv_iconst (v := 1) hx hb dX11_init_128 (by decide) ?_
                                                                              refine ccall (As := [.int 1]) (rest := [.ref q_154, .ref h0]) (k := 5) (X := [(h0, .inr (10, [.ref q_1, .ref q_2, .ref q_3, .ref q_150, .ref q_151, .ref q_152, .ref q_153, .null, .null])), (q_1, .inl (cA_1, 6, .inr (.inr (.inr (.inr (fun _ => none)))))), (q_2, .inl (cA_2, 4, .inr (.inr (.inr (.inr f_18))))), (q_3, .inl (cA_3, 32, .inr (.inr (.inr (.inr f_147)))))]) C (c_Notes_init l D q_154 H.size 1 (by decide +kernel) (by decide +kernel)) (by decide) mc_X6_init (zt_t1 215 rfl rfl) ⟨Nat.le_of_ble_eq_true rfl, Nat.le_of_ble_eq_true rfl⟩ ⟨Nat.le_of_ble_eq_true rfl, Nat.le_of_ble_eq_true rfl⟩ hl.1 (Nat.le_of_ble_eq_true rfl) dX11_init_129 hC hP hD hS hA hAr hK hE (fun K V H locs hC hP hD hS hAr hle hq => ?_)
                                                                              have hz := hz.add hle hq
                                                                              have hr_q_2 := hr_q_2.le hle
                                                                              have hr_q_3 := hr_q_3.le hle
                                                                              clear hle hq
                                                                              refine W.widen (k := 1084) (n := 21615) (by omega) (by omega) ?_
                                                                              refine va_putF (D := D) (ci := 10) (v := .ref q_154) (ty := .object "CardTables$Notes") (C := RX11) (T := TX11) (N := 9) hx hb hts in_10 tyX11 tyX11_ok nmX11 hown hK hP hD hS 0 rfl rfl 7 (by decide) (hts (.fieldLink RX11 47 "CardTables" "quiet" "LCardTables$Notes;") (zt_t2 64 rfl rfl)) (fun _ h9 => h9) rfl hin rfl (by decide +kernel) rfl rfl (Nat.le_of_ble_eq_true rfl) dX11_init_132 (fun H locs hP hD hS => ?_)
                                                                              have hP : va_P D vwCl ([(h0, .inr (10, [.ref q_1, .ref q_2, .ref q_3, .ref q_150, .ref q_151, .ref q_152, .ref q_153, .ref q_154, .null])), (q_1, .inl (cA_1, 6, .inr (.inr (.inr (.inr (fun _ => none)))))), (q_2, .inl (cA_2, 4, .inr (.inr (.inr (.inr f_18))))), (q_3, .inl (cA_3, 32, .inr (.inr (.inr (.inr f_147)))))] ++ zW K V) H := hP
                                                                              have hD : va_D A ([(h0, .inr (10, [.ref q_1, .ref q_2, .ref q_3, .ref q_150, .ref q_151, .ref q_152, .ref q_153, .ref q_154, .null])), (q_1, .inl (cA_1, 6, .inr (.inr (.inr (.inr (fun _ => none)))))), (q_2, .inl (cA_2, 4, .inr (.inr (.inr (.inr f_18))))), (q_3, .inl (cA_3, 32, .inr (.inr (.inr (.inr f_147)))))] ++ zW K V) := hD
                                                                              refine lv_aload_n hx hb dX11_init_135 rfl (lv_at hl 1 rfl) ?_
                                                                              refine va_new (ci := 2) (fs := [.null, .null, .null, .null, .null, .null, .null, .null, .null, .int 0, .int 0, .int 0, .int 0, .int 0]) (C := RX2) (T := TX2) (N := 14) hx hb hts in_2 tyX2 tyX2_ok hown (hts (.classLink RX11 50 RX2) (zt_t2 4 rfl rfl)) (hts (.instantiable RX2 14) (zt_t2 5 rfl rfl)) (hts (.initialized RX2) (zt_t1 7 rfl rfl)) hK hP hD hS hA rfl (fun j hj => by rcases (show j = 0 ∨ j = 1 ∨ j = 2 ∨ j = 3 ∨ j = 4 ∨ j = 5 ∨ j = 6 ∨ j = 7 ∨ j = 8 ∨ j = 9 ∨ j = 10 ∨ j = 11 ∨ j = 12 ∨ j = 13 by omega) with rfl | rfl | rfl | rfl | rfl | rfl | rfl | rfl | rfl | rfl | rfl | rfl | rfl | rfl <;> rfl) (Nat.le_of_ble_eq_true rfl) (Nat.le_of_ble_eq_true rfl) dX11_init_136 (fun q_155 H hP hD hS => ?_)
                                                                              have hP : va_P D vwCl (([(h0, .inr (10, [.ref q_1, .ref q_2, .ref q_3, .ref q_150, .ref q_151, .ref q_152, .ref q_153, .ref q_154, .null])), (q_1, .inl (cA_1, 6, .inr (.inr (.inr (.inr (fun _ => none)))))), (q_2, .inl (cA_2, 4, .inr (.inr (.inr (.inr f_18))))), (q_3, .inl (cA_3, 32, .inr (.inr (.inr (.inr f_147)))))] ++ zW K V) ++ [(q_155, .inr (2, [.null, .null, .null, .null, .null, .null, .null, .null, .null, .int 0, .int 0, .int 0, .int 0, .int 0]))]) H := hP
                                                                              have hD : va_D A (([(h0, .inr (10, [.ref q_1, .ref q_2, .ref q_3, .ref q_150, .ref q_151, .ref q_152, .ref q_153, .ref q_154, .null])), (q_1, .inl (cA_1, 6, .inr (.inr (.inr (.inr (fun _ => none)))))), (q_2, .inl (cA_2, 4, .inr (.inr (.inr (.inr f_18))))), (q_3, .inl (cA_3, 32, .inr (.inr (.inr (.inr f_147)))))] ++ zW K V) ++ [(q_155, .inr (2, [.null, .null, .null, .null, .null, .null, .null, .null, .null, .int 0, .int 0, .int 0, .int 0, .int 0]))]) := hD
                                                                              refine W.widen (k := 1085) (n := 21629) (by omega) (by omega) ?_
                                                                              refine lv_dup hx hb dX11_init_139 rfl ?_
                                                                              refine ccall (As := []) (rest := [.ref q_155, .ref h0]) (k := 2) (X := [(h0, .inr (10, [.ref q_1, .ref q_2, .ref q_3, .ref q_150, .ref q_151, .ref q_152, .ref q_153, .ref q_154, .null])), (q_1, .inl (cA_1, 6, .inr (.inr (.inr (.inr (fun _ => none)))))), (q_2, .inl (cA_2, 4, .inr (.inr (.inr (.inr f_18))))), (q_3, .inl (cA_3, 32, .inr (.inr (.inr (.inr f_147)))))]) C (c_Ends_init l D q_155 H.size) (by decide) mc_X2_init (zt_t2 6 rfl rfl) ⟨Nat.le_of_ble_eq_true rfl, Nat.le_of_ble_eq_true rfl⟩ ⟨Nat.le_of_ble_eq_true rfl, Nat.le_of_ble_eq_true rfl⟩ hl.1 (Nat.le_of_ble_eq_true rfl) dX11_init_140 hC hP hD hS hA hAr hK hE (fun K V H locs hC hP hD hS hAr hle hq => ?_)
                                                                              have hz := hz.add hle hq
                                                                              have hr_q_2 := hr_q_2.le hle
                                                                              have hr_q_3 := hr_q_3.le hle
                                                                              clear hle hq
                                                                              refine W.widen (k := 1122) (n := 63626) (by omega) (by omega) ?_
                                                                              refine va_putF (D := D) (ci := 10) (v := .ref q_155) (ty := .object "CardTables$Ends") (C := RX11) (T := TX11) (N := 9) hx hb hts in_10 tyX11 tyX11_ok nmX11 hown hK hP hD hS 0 rfl rfl 8 (by decide) (hts (.fieldLink RX11 53 "CardTables" "ends" "LCardTables$Ends;") (zt_t2 65 rfl rfl)) (fun _ h9 => h9) rfl hin rfl (by decide +kernel) rfl rfl (Nat.le_of_ble_eq_true rfl) dX11_init_143 (fun H locs hP hD hS => ?_)
                                                                              have hP : va_P D vwCl ([(h0, .inr (10, [.ref q_1, .ref q_2, .ref q_3, .ref q_150, .ref q_151, .ref q_152, .ref q_153, .ref q_154, .ref q_155])), (q_1, .inl (cA_1, 6, .inr (.inr (.inr (.inr (fun _ => none)))))), (q_2, .inl (cA_2, 4, .inr (.inr (.inr (.inr f_18))))), (q_3, .inl (cA_3, 32, .inr (.inr (.inr (.inr f_147)))))] ++ zW K V) H := hP
                                                                              have hD : va_D A ([(h0, .inr (10, [.ref q_1, .ref q_2, .ref q_3, .ref q_150, .ref q_151, .ref q_152, .ref q_153, .ref q_154, .ref q_155])), (q_1, .inl (cA_1, 6, .inr (.inr (.inr (.inr (fun _ => none)))))), (q_2, .inl (cA_2, 4, .inr (.inr (.inr (.inr f_18))))), (q_3, .inl (cA_3, 32, .inr (.inr (.inr (.inr f_147)))))] ++ zW K V) := hD
                                                                              obtain ⟨K, V, hC, hP, hD, hAr, hle, hq⟩ := cpush24 (X := [(h0, .inr (10, [.ref q_1, .ref q_2, .ref q_3, .ref q_150, .ref q_151, .ref q_152, .ref q_153, .ref q_154, .ref q_155])), (q_1, .inl (cA_1, 6, .inr (.inr (.inr (.inr (fun _ => none)))))), (q_2, .inl (cA_2, 4, .inr (.inr (.inr (.inr f_18)))))]) hC hP hD hr_q_3 (by decide) hAr (hK.2 2 _ rfl)
                                                                              have hz := hz.add hle hq
                                                                              have hr_q_2 := hr_q_2.le hle
                                                                              clear hle hq
                                                                              obtain ⟨K, V, hC, hP, hD, hAr, hle, hq⟩ := cpush24 (X := [(h0, .inr (10, [.ref q_1, .ref q_2, .ref q_3, .ref q_150, .ref q_151, .ref q_152, .ref q_153, .ref q_154, .ref q_155])), (q_1, .inl (cA_1, 6, .inr (.inr (.inr (.inr (fun _ => none))))))]) hC hP hD hr_q_2 (by decide) hAr (hK.2 1 _ rfl)
                                                                              have hz := hz.add hle hq
                                                                              clear hle hq
                                                                              obtain ⟨K, V, hC, hP, hD, hAr, hle, hq⟩ := cpush22 (X := [(h0, .inr (10, [.ref q_1, .ref q_2, .ref q_3, .ref q_150, .ref q_151, .ref q_152, .ref q_153, .ref q_154, .ref q_155]))]) hC hP hD (by decide) hAr (hK.2 0 _ rfl)
                                                                              have hz := hz.add hle hq
                                                                              clear hle hq
                                                                              have hR : ∀ j k' n', zX 10 j = some (k', n') → zat K ((fun j => ([q_1, q_2, q_3, q_150, q_151, q_152, q_153, q_154, q_155] : List Nat).getD j 0) j) k' n' := by
                                                                                refine zXf (P := fun j k' n' => zat K ((fun j => ([q_1, q_2, q_3, q_150, q_151, q_152, q_153, q_154, q_155] : List Nat).getD j 0) j) k' n') 10 [(10, 0, 22, 6), (10, 1, 24, 4), (10, 2, 24, 32), (10, 3, 25, 4), (10, 4, 20, 4), (10, 5, 8, 0), (10, 6, 5, 0), (10, 7, 5, 0), (10, 8, 2, 0)] (by decide) (fun q hq => ?_)
                                                                                simp only [List.mem_cons, List.not_mem_nil, or_false] at hq
                                                                                rcases hq with rfl | rfl | rfl | rfl | rfl | rfl | rfl | rfl | rfl
                                                                                · exact hz.get 0 rfl
                                                                                · exact hz.get 1 rfl
                                                                                · exact hz.get 2 rfl
                                                                                · exact hz.get 8 rfl
                                                                                · exact hz.get 7 rfl
                                                                                · exact hz.get 6 rfl
                                                                                · exact hz.get 5 rfl
                                                                                · exact hz.get 4 rfl
                                                                                · exact hz.get 3 rfl
                                                                              obtain ⟨K, V, ⟨hC, hP, hD, hAr, hle, hq⟩, hzr⟩ := cpushO (X := []) (k := 10) (by decide) hC hP hD (fun j => ([q_1, q_2, q_3, q_150, q_151, q_152, q_153, q_154, q_155] : List Nat).getD j 0) (fun j => ([0, 0, 0, 0, 0, 0, 0, 0, 0] : List Int32).getD j 0) (fun K' V' h1 h2 h3 h4 => by rw [zF_10 h1, h2] <;> rfl) hR zi15 zi4 hAr
                                                                              refine W.widen (k := 1122) (n := 63626) (by omega) (by omega) ?_
                                                                              exact cend hx hb hr hlocks hAe hC ⟨fun h => absurd rfl h, fun _ => by rw [hzr]; rfl⟩ hP hD hS hAr hq dX11_init_146
                                                                            · exact absurd c_149 (by decide +kernel)
          · exact absurd c_20 (by decide +kernel)
