set_option maxHeartbeats 4000000 in
set_option maxRecDepth 100000 in
theorem c_X12_endBars (l : Launch) (D : va_G) (K : zK) (hM : mK K) (f : Nat → Int32) (A : Nat → Nat → Int32) (hT : mT f A) (a0 : Nat) (ha0 : a0 ∈ zl K) (hk0 : zk K a0 = 11) (x1 : Int32) (x2 : Int32) : Met l yX12_endBars (zc yX12_endBars cX12_endBars 3 (some .int)) (rmd 2) (va_Pc [.ref a0, .int x1, .int x2] (zB D K (mV K f A))) (vp_Si (fun r => (0 ≤ r.toInt → 0 ≤ x1.toInt ∧ x1.toInt ≤ 3 ∧ 0 ≤ x2.toInt ∧ x2.toInt ≤ 1 ∧ (A 40 (1290 * x1.toInt + 5).toNat).toInt = 1 ∧ h4 (A 40) (1290 * x1.toInt) 4))) 0 0 (fun _ => False) := by
  refine zin (by decide) (Nat.le_of_ble_eq_true rfl) ?_
  intro p e s m args below meth c ls Q hQ C hr hlk hP hs hl
  have C : CallFix p m c cX12_endBars 3 s args zw RX12 := C
  obtain ⟨hx, hb, hml, hown, hts⟩ := id C
  have hO := hM.1
  have hS : va_S (zA K) s.heap s.heap [] := va_S.rf
  have hl : lv_has ls 3 [(0, .ref a0), (1, .int x1), (2, .int x2)] := hl
  refine lv_aload_n hx hb dX12_endBars_0 rfl (lv_at hl 0 rfl) ?_
  refine lv_iload_n hx hb dX12_endBars_1 rfl (lv_at hl 1 rfl) ?_
  refine zcS (zrV (As := [.int x1]) (b := a0) (rest := []) C hs hP hS (c_X12_isTable l D K hM f A hT a0 ha0 hk0 x1) m_X12_isTable wm_X12_107 (zrecv hs hP ha0 (zF_11 hk0) rfl) ⟨by decide, by decide⟩ hl.1 (Nat.le_of_ble_eq_true rfl) dX12_endBars_2) (fun x_1 p_1 => ?_)
  have pp_1 : (x_1.toInt ≠ 0 → 0 ≤ x1.toInt ∧ x1.toInt ≤ 3) := p_1.2
  have g_2 := z_rng x1
  refine bz_eq (tgt := 17) hx hb rfl dX12_endBars_5 (by decide) (fun c_3 => ?_) (fun c_3 => ?_)
  · skip
    clear pp_1
    refine lv_bipush (v := (-2)) hx hb dX12_endBars_17 (by decide) ?_
    exact zaS hQ hx hb hr hlk (fun h9 => absurd h9 (by rw [ti_m2]; decide)) dX12_endBars_19
  · skip
    replace pp_1 := pp_1 c_3
    refine lv_iload_n hx hb dX12_endBars_8 rfl (lv_at hl 2 rfl) ?_
    refine lv_iconst (v := 0) hx hb dX12_endBars_9 (by decide) ?_
    refine lv_iconst (v := 1) hx hb dX12_endBars_10 (by decide) ?_
    refine zcS (zrS (As := [.int x2, .int 0, .int 1]) (rest := []) C hs hP hS (c_X12_in l D K hM f A hT x2 0 1) m_X12_in wm_X12_91 ⟨by decide, by decide⟩ hl.1 (Nat.le_of_ble_eq_true rfl) dX12_endBars_11) (fun x_4 p_4 => ?_)
    have pp_4 : (x_4.toInt ≠ 0 → (0 : Int32).toInt ≤ x2.toInt ∧ x2.toInt ≤ (1 : Int32).toInt) ∧ (x_4.toInt = 0 → x2.toInt < (0 : Int32).toInt ∨ (1 : Int32).toInt < x2.toInt) := p_4.2
    try simp only [ti_0, ti_1] at pp_4
    have g_5 := z_rng x2
    refine bz_ne (tgt := 20) hx hb rfl dX12_endBars_14 (by decide) (fun c_6 => ?_) (fun c_6 => ?_)
    · skip
      replace pp_4 := pp_4.1 c_6
      refine lv_aload_n hx hb dX12_endBars_20 rfl (lv_at hl 0 rfl) ?_
      refine lv_sipush (v := 1290) hx hb dX12_endBars_21 (by decide) ?_
      refine lv_iload_n hx hb dX12_endBars_24 rfl (lv_at hl 1 rfl) ?_
      refine lv_imul hx hb dX12_endBars_25 ?_
      refine lv_topi (fun x_7 ex_7 => ?_)
      obtain ⟨f_7, l_7, u_7⟩ := z_mul ex_7 ti_1290 rfl
      try replace f_7 : x_7.toInt = 1290 * x1.toInt := by omega
      clear l_7 u_7
      have hbs_8 : zRow x_7.toInt := zRow.of (t := x1.toInt) (by omega) (by omega)
      have hbl_hbs_8 := hbs_8.lin
      refine zcS (zrV (As := [.int x_7]) (b := a0) (rest := []) C hs hP hS (c_X12_isEnd l D K hM f A hT a0 ha0 hk0 x_7 hbs_8) m_X12_isEnd wm_X12_301 (zrecv hs hP ha0 (zF_11 hk0) rfl) ⟨by decide, by decide⟩ hl.1 (Nat.le_of_ble_eq_true rfl) dX12_endBars_26) (fun x_9 p_9 => ?_)
      have pp_9 : (x_9.toInt ≠ 0 → (A 40 (x_7.toInt + 5).toNat).toInt = 1 ∧ h4 (A 40) x_7.toInt 4) := p_9.2
      refine bz_eq (tgt := 36) hx hb rfl dX12_endBars_29 (by decide) (fun c_10 => ?_) (fun c_10 => ?_)
      · skip
        clear pp_9
        refine lv_bipush (v := (-4)) hx hb dX12_endBars_36 (by decide) ?_
        exact zaS hQ hx hb hr hlk (fun h9 => absurd h9 (by rw [ti_m4]; decide)) dX12_endBars_38
      · skip
        replace pp_9 := pp_9 c_10
        refine lv_iconst (v := 0) hx hb dX12_endBars_32 (by decide) ?_
        refine lv_goto (tgt := 38) hx hb dX12_endBars_33 (by decide) ?_
        have hx_11 : x_7.toInt = 1290 * x1.toInt := by omega
        rw [hx_11] at pp_9
        exact zaS hQ hx hb hr hlk (fun _ => ⟨by omega, by omega, by omega, by omega, pp_9.1, pp_9.2⟩) dX12_endBars_38
    · skip
      replace pp_4 := pp_4.2 c_6
      refine lv_bipush (v := (-2)) hx hb dX12_endBars_17 (by decide) ?_
      exact zaS hQ hx hb hr hlk (fun h9 => absurd h9 (by rw [ti_m2]; decide)) dX12_endBars_19
