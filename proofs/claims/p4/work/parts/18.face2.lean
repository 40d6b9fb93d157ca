set_option maxHeartbeats 4000000 in
set_option maxRecDepth 100000 in
theorem c_X11_card (l : Launch) (D : va_G) (K : zK) (hO : zOk K) (vi va : Nat → Nat → Int32) (vg : Nat → Nat → Option Nat) (hI : zI K (vi, va, vg)) (a0 : Nat) (ha0 : a0 ∈ zl K) (hk0 : zk K a0 = 10) (x1 : Int32) (x2 : Int32) : Met l yX11_card (zc yX11_card cX11_card 4 (some .int)) (rmd 1) (va_Pc [.ref a0, .int x1, .int x2] (zB D K (vi, va, vg))) (vp_Si (fun r => True)) 0 0 (fun _ => False) := by
  refine zin (by decide) (Nat.le_of_ble_eq_true rfl) ?_
  intro p e s m args below meth c ls Q hQ C hr hlk hP hs hl
  have C : CallFix p m c cX11_card 4 s args zw RX11 := C
  obtain ⟨hx, hb, hml, hown, hts⟩ := id C
  have hS : va_S (zA K) s.heap s.heap [] := va_S.rf
  have hl : lv_has ls 4 [(0, .ref a0), (1, .int x1), (2, .int x2)] := hl
  refine lv_aload_n hx hb dX11_card_0 rfl (lv_at hl 0 rfl) ?_
  refine lv_iload_n hx hb dX11_card_1 rfl (lv_at hl 1 rfl) ?_
  refine zcSq (zrV (As := [.int x1]) (b := a0) (rest := []) C hs hP hS (c_X11_tableAt l D K hO vi va vg hI a0 ha0 hk0 x1) m_X11_tableAt wm_X11_83 (zrecv hs hP ha0 (zF_10 hk0) rfl) ⟨by decide, by decide⟩ hl.1 (Nat.le_of_ble_eq_true rfl) dX11_card_2) (fun p_1 => ?_) (fun q_1 p_1 => ?_)
  · skip
    refine lv_astore_nN (lv' := [(3, .null), (0, .ref a0), (1, .int x1), (2, .int x2)]) hx hb dX11_card_5 rfl hl (by decide) rfl (fun ls hl => ?_)
    refine lv_aload_nN hx hb dX11_card_6 rfl (lv_at hl 0 rfl) ?_
    refine lv_ifnullN (tgt := 18) hx hb dX11_card_7 (by decide) ?_
    refine lv_bipush (v := (-2)) hx hb dX11_card_18 (by decide) ?_
    refine lv_goto (tgt := 29) hx hb dX11_card_20 (by decide) ?_
    exact zaS hQ hx hb hr hlk trivial dX11_card_29
  · skip
    obtain ⟨ha_q_1, hk_q_1, hr_q_1⟩ := p_1 _ rfl
    refine lv_astore_n (lv' := [(3, .ref q_1), (0, .ref a0), (1, .int x1), (2, .int x2)]) hx hb dX11_card_5 rfl hl (by decide) rfl (fun ls hl => ?_)
    refine lv_aload_n hx hb dX11_card_6 rfl (lv_at hl 0 rfl) ?_
    refine lv_ifnull hx hb dX11_card_7 ?_
    refine lv_aload_n hx hb dX11_card_10 rfl (lv_at hl 0 rfl) ?_
    refine lv_iload_n hx hb dX11_card_11 rfl (lv_at hl 3 rfl) ?_
    refine zcS (zrV (As := [.int x2]) (b := q_1) (rest := []) C hs hP hS (c_X9_hasCard l D K hO vi va vg hI q_1 ha_q_1 hk_q_1 x2) m_X9_hasCard wm_X11_101 (zrecv hs hP ha_q_1 (zF_8 hk_q_1) rfl) ⟨by decide, by decide⟩ hl.1 (Nat.le_of_ble_eq_true rfl) dX11_card_12) (fun x_2 p_2 => ?_)
    have pp_2 : (x_2.toInt ≠ 0 → 0 ≤ x2.toInt ∧ x2.toInt ≤ 59) := p_2.2
    refine bz_ne (tgt := 23) hx hb rfl dX11_card_15 (by decide) (fun c_3 => ?_) (fun c_3 => ?_)
    · skip
      refine lv_aload_n hx hb dX11_card_23 rfl (lv_at hl 0 rfl) ?_
      refine zg_8_6 C hs hP ha_q_1 hk_q_1 wf_X11_104 dX11_card_24 ?_
      have hf_4 := hO.r (j := 6) ha_q_1 hk_q_1 (rfl : zX 8 6 = some (20, 60))
      refine lv_iload_n hx hb dX11_card_27 rfl (lv_at hl 3 rfl) ?_
      have g_6 := z_rng x2
      have hin_5 : vp_in x2 (zn K (zr K q_1 6)) := vp_in_iff.mpr (by rw [(hf_4.2.2 (by decide))]; refine ⟨?_, ?_⟩ <;> omega)
      refine zld_20 C hs hP hf_4.1 hf_4.2.1 hin_5 dX11_card_28 ?_
      exact zaS hQ hx hb hr hlk trivial dX11_card_29
    · skip
      refine lv_bipush (v := (-2)) hx hb dX11_card_18 (by decide) ?_
      refine lv_goto (tgt := 29) hx hb dX11_card_20 (by decide) ?_
      exact zaS hQ hx hb hr hlk trivial dX11_card_29
set_option maxHeartbeats 4000000 in
set_option maxRecDepth 100000 in
theorem c_X11_trick (l : Launch) (D : va_G) (K : zK) (hO : zOk K) (vi va : Nat → Nat → Int32) (vg : Nat → Nat → Option Nat) (hI : zI K (vi, va, vg)) (a0 : Nat) (ha0 : a0 ∈ zl K) (hk0 : zk K a0 = 10) (x1 : Int32) (x2 : Int32) : Met l yX11_trick (zc yX11_trick cX11_trick 4 (some .int)) (rmd 1) (va_Pc [.ref a0, .int x1, .int x2] (zB D K (vi, va, vg))) (vp_Si (fun r => True)) 0 0 (fun _ => False) := by
  refine zin (by decide) (Nat.le_of_ble_eq_true rfl) ?_
  intro p e s m args below meth c ls Q hQ C hr hlk hP hs hl
  have C : CallFix p m c cX11_trick 4 s args zw RX11 := C
  obtain ⟨hx, hb, hml, hown, hts⟩ := id C
  have hS : va_S (zA K) s.heap s.heap [] := va_S.rf
  have hl : lv_has ls 4 [(0, .ref a0), (1, .int x1), (2, .int x2)] := hl
  refine lv_aload_n hx hb dX11_trick_0 rfl (lv_at hl 0 rfl) ?_
  refine lv_iload_n hx hb dX11_trick_1 rfl (lv_at hl 1 rfl) ?_
  refine zcSq (zrV (As := [.int x1]) (b := a0) (rest := []) C hs hP hS (c_X11_tableAt l D K hO vi va vg hI a0 ha0 hk0 x1) m_X11_tableAt wm_X11_83 (zrecv hs hP ha0 (zF_10 hk0) rfl) ⟨by decide, by decide⟩ hl.1 (Nat.le_of_ble_eq_true rfl) dX11_trick_2) (fun p_1 => ?_) (fun q_1 p_1 => ?_)
  · skip
    refine lv_astore_nN (lv' := [(3, .null), (0, .ref a0), (1, .int x1), (2, .int x2)]) hx hb dX11_trick_5 rfl hl (by decide) rfl (fun ls hl => ?_)
    refine lv_aload_nN hx hb dX11_trick_6 rfl (lv_at hl 0 rfl) ?_
    refine lv_ifnonnullN hx hb dX11_trick_7 ?_
    refine lv_bipush (v := (-2)) hx hb dX11_trick_10 (by decide) ?_
    refine lv_goto (tgt := 23) hx hb dX11_trick_12 (by decide) ?_
    exact zaS hQ hx hb hr hlk trivial dX11_trick_23
  · skip
    obtain ⟨ha_q_1, hk_q_1, hr_q_1⟩ := p_1 _ rfl
    refine lv_astore_n (lv' := [(3, .ref q_1), (0, .ref a0), (1, .int x1), (2, .int x2)]) hx hb dX11_trick_5 rfl hl (by decide) rfl (fun ls hl => ?_)
    refine lv_aload_n hx hb dX11_trick_6 rfl (lv_at hl 0 rfl) ?_
    refine lv_ifnonnull (tgt := 15) hx hb dX11_trick_7 (by decide) ?_
    refine lv_aload_n hx hb dX11_trick_15 rfl (lv_at hl 0 rfl) ?_
    refine zg_8_10 C hs hP ha_q_1 hk_q_1 wf_X11_201 dX11_trick_16 ?_
    have hf_2 := hO.r (j := 10) ha_q_1 hk_q_1 (rfl : zX 8 10 = some (7, 0))
    refine lv_iload_n hx hb dX11_trick_19 rfl (lv_at hl 3 rfl) ?_
    refine zcS (zrV (As := [.int x2]) (b := zr K q_1 10) (rest := []) C hs hP hS (c_X8_at l D K hO vi va vg hI (zr K q_1 10) hf_2.1 hf_2.2.1 x2) m_X8_at wm_X11_204 (zrecv hs hP hf_2.1 (zF_7 hf_2.2.1) rfl) ⟨by decide, by decide⟩ hl.1 (Nat.le_of_ble_eq_true rfl) dX11_trick_20) (fun x_3 p_3 => ?_)
    exact zaS hQ hx hb hr hlk trivial dX11_trick_23
set_option maxHeartbeats 4000000 in
set_option maxRecDepth 100000 in
theorem c_X11_left (l : Launch) (D : va_G) (K : zK) (hO : zOk K) (vi va : Nat → Nat → Int32) (vg : Nat → Nat → Option Nat) (hI : zI K (vi, va, vg)) (a0 : Nat) (ha0 : a0 ∈ zl K) (hk0 : zk K a0 = 10) (x1 : Int32) (x2 : Int32) : Met l yX11_left (zc yX11_left cX11_left 4 (some .int)) (rmd 1) (va_Pc [.ref a0, .int x1, .int x2] (zB D K (vi, va, vg))) (vp_Si (fun r => True)) 0 0 (fun _ => False) := by
  refine zin (by decide) (Nat.le_of_ble_eq_true rfl) ?_
  intro p e s m args below meth c ls Q hQ C hr hlk hP hs hl
  have C : CallFix p m c cX11_left 4 s args zw RX11 := C
  obtain ⟨hx, hb, hml, hown, hts⟩ := id C
  have hS : va_S (zA K) s.heap s.heap [] := va_S.rf
  have hl : lv_has ls 4 [(0, .ref a0), (1, .int x1), (2, .int x2)] := hl
  refine lv_aload_n hx hb dX11_left_0 rfl (lv_at hl 0 rfl) ?_
  refine lv_iload_n hx hb dX11_left_1 rfl (lv_at hl 1 rfl) ?_
  refine zcSq (zrV (As := [.int x1]) (b := a0) (rest := []) C hs hP hS (c_X11_tableAt l D K hO vi va vg hI a0 ha0 hk0 x1) m_X11_tableAt wm_X11_83 (zrecv hs hP ha0 (zF_10 hk0) rfl) ⟨by decide, by decide⟩ hl.1 (Nat.le_of_ble_eq_true rfl) dX11_left_2) (fun p_1 => ?_) (fun q_1 p_1 => ?_)
  · skip
    refine lv_astore_nN (lv' := [(3, .null), (0, .ref a0), (1, .int x1), (2, .int x2)]) hx hb dX11_left_5 rfl hl (by decide) rfl (fun ls hl => ?_)
    refine lv_aload_nN hx hb dX11_left_6 rfl (lv_at hl 0 rfl) ?_
    refine lv_ifnullN (tgt := 22) hx hb dX11_left_7 (by decide) ?_
    refine lv_bipush (v := (-2)) hx hb dX11_left_22 (by decide) ?_
    exact zaS hQ hx hb hr hlk trivial dX11_left_24
  · skip
    obtain ⟨ha_q_1, hk_q_1, hr_q_1⟩ := p_1 _ rfl
    refine lv_astore_n (lv' := [(3, .ref q_1), (0, .ref a0), (1, .int x1), (2, .int x2)]) hx hb dX11_left_5 rfl hl (by decide) rfl (fun ls hl => ?_)
    refine lv_aload_n hx hb dX11_left_6 rfl (lv_at hl 0 rfl) ?_
    refine lv_ifnull hx hb dX11_left_7 ?_
    refine lv_iload_n hx hb dX11_left_10 rfl (lv_at hl 3 rfl) ?_
    refine zcS (zrS (As := [.int x2]) (rest := []) C hs hP hS (c_X11_isSeat l D K hO vi va vg hI x2) m_X11_isSeat wm_X11_87 ⟨by decide, by decide⟩ hl.1 (Nat.le_of_ble_eq_true rfl) dX11_left_11) (fun x_2 p_2 => ?_)
    have pp_2 : (x_2.toInt ≠ 0 → 0 ≤ x2.toInt ∧ x2.toInt ≤ 3) := p_2.2
    refine bz_ne (tgt := 25) hx hb rfl dX11_left_14 (by decide) (fun c_3 => ?_) (fun c_3 => ?_)
    · skip
      refine lv_iload_n hx hb dX11_left_25 rfl (lv_at hl 3 rfl) ?_
      refine lv_iconst (v := 4) hx hb dX11_left_26 (by decide) ?_
      refine bi_ne (tgt := 40) hx hb rfl ti_4 dX11_left_27 (by decide) (fun c_4 => ?_) (fun c_4 => ?_)
      · skip
        refine lv_aload_n hx hb dX11_left_40 rfl (lv_at hl 0 rfl) ?_
        refine lv_iload_n hx hb dX11_left_41 rfl (lv_at hl 3 rfl) ?_
        refine zcSq (zrV (As := [.int x2]) (b := q_1) (rest := []) C hs hP hS (c_X9_handOf l D K hO vi va vg hI q_1 ha_q_1 hk_q_1 x2) m_X9_handOf wm_X11_208 (zrecv hs hP ha_q_1 (zF_8 hk_q_1) rfl) ⟨by decide, by decide⟩ hl.1 (Nat.le_of_ble_eq_true rfl) dX11_left_42) (fun p_5 => ?_) (fun q_5 p_5 => ?_)
        · skip
          obtain ⟨q9, h9, -⟩ := p_5; cases h9
        · skip
          obtain ⟨q9, h9, h8, h7⟩ := p_5
          cases h9
          have h8_q_5 := h8; have h7_q_5 := h7; clear h8 h7
          refine zg_7_1 C hs hP h8_q_5 h7_q_5 wf_X11_212 dX11_left_45 ?_
          exact zaS hQ hx hb hr hlk trivial dX11_left_48
      · skip
        refine lv_aload_n hx hb dX11_left_30 rfl (lv_at hl 0 rfl) ?_
        refine zg_8_9 C hs hP ha_q_1 hk_q_1 wf_X11_215 dX11_left_31 ?_
        have hf_6 := hO.r (j := 9) ha_q_1 hk_q_1 (rfl : zX 8 9 = some (7, 0))
        refine zg_7_1 C hs hP hf_6.1 hf_6.2.1 wf_X11_212 dX11_left_34 ?_
        refine lv_goto (tgt := 48) hx hb dX11_left_37 (by decide) ?_
        exact zaS hQ hx hb hr hlk trivial dX11_left_48
    · skip
      refine lv_iload_n hx hb dX11_left_17 rfl (lv_at hl 3 rfl) ?_
      refine lv_iconst (v := 4) hx hb dX11_left_18 (by decide) ?_
      refine bi_eq (tgt := 25) hx hb rfl ti_4 dX11_left_19 (by decide) (fun c_7 => ?_) (fun c_7 => ?_)
      · skip
        refine lv_iload_n hx hb dX11_left_25 rfl (lv_at hl 3 rfl) ?_
        refine lv_iconst (v := 4) hx hb dX11_left_26 (by decide) ?_
        refine bi_ne (tgt := 40) hx hb rfl ti_4 dX11_left_27 (by decide) (fun c_8 => ?_) (fun c_8 => ?_)
        · skip
          refine lv_aload_n hx hb dX11_left_40 rfl (lv_at hl 0 rfl) ?_
          refine lv_iload_n hx hb dX11_left_41 rfl (lv_at hl 3 rfl) ?_
          refine zcSq (zrV (As := [.int x2]) (b := q_1) (rest := []) C hs hP hS (c_X9_handOf l D K hO vi va vg hI q_1 ha_q_1 hk_q_1 x2) m_X9_handOf wm_X11_208 (zrecv hs hP ha_q_1 (zF_8 hk_q_1) rfl) ⟨by decide, by decide⟩ hl.1 (Nat.le_of_ble_eq_true rfl) dX11_left_42) (fun p_9 => ?_) (fun q_9 p_9 => ?_)
          · skip
            obtain ⟨q9, h9, -⟩ := p_9; cases h9
          · skip
            obtain ⟨q9, h9, h8, h7⟩ := p_9
            cases h9
            have h8_q_9 := h8; have h7_q_9 := h7; clear h8 h7
            refine zg_7_1 C hs hP h8_q_9 h7_q_9 wf_X11_212 dX11_left_45 ?_
            exact zaS hQ hx hb hr hlk trivial dX11_left_48
        · skip
          refine lv_aload_n hx hb dX11_left_30 rfl (lv_at hl 0 rfl) ?_
          refine zg_8_9 C hs hP ha_q_1 hk_q_1 wf_X11_215 dX11_left_31 ?_
          have hf_10 := hO.r (j := 9) ha_q_1 hk_q_1 (rfl : zX 8 9 = some (7, 0))
          refine zg_7_1 C hs hP hf_10.1 hf_10.2.1 wf_X11_212 dX11_left_34 ?_
          refine lv_goto (tgt := 48) hx hb dX11_left_37 (by decide) ?_
          exact zaS hQ hx hb hr hlk trivial dX11_left_48
      · skip
        refine lv_bipush (v := (-2)) hx hb dX11_left_22 (by decide) ?_
        exact zaS hQ hx hb hr hlk trivial dX11_left_24
set_option maxHeartbeats 4000000 in
set_option maxRecDepth 100000 in
theorem c_X11_sum (l : Launch) (D : va_G) (K : zK) (hO : zOk K) (vi va : Nat → Nat → Int32) (vg : Nat → Nat → Option Nat) (hI : zI K (vi, va, vg)) (a0 : Nat) (ha0 : a0 ∈ zl K) (hk0 : zk K a0 = 10) (x1 : Int32) (x2 : Int32) : Met l yX11_sum (zc yX11_sum cX11_sum 4 (some .int)) (rmd 1) (va_Pc [.ref a0, .int x1, .int x2] (zB D K (vi, va, vg))) (vp_Si (fun r => True)) 0 0 (fun _ => False) := by
  refine zin (by decide) (Nat.le_of_ble_eq_true rfl) ?_
  intro p e s m args below meth c ls Q hQ C hr hlk hP hs hl
  have C : CallFix p m c cX11_sum 4 s args zw RX11 := C
  obtain ⟨hx, hb, hml, hown, hts⟩ := id C
  have hS : va_S (zA K) s.heap s.heap [] := va_S.rf
  have hl : lv_has ls 4 [(0, .ref a0), (1, .int x1), (2, .int x2)] := hl
  refine lv_aload_n hx hb dX11_sum_0 rfl (lv_at hl 0 rfl) ?_
  refine lv_iload_n hx hb dX11_sum_1 rfl (lv_at hl 1 rfl) ?_
  refine zcSq (zrV (As := [.int x1]) (b := a0) (rest := []) C hs hP hS (c_X11_tableAt l D K hO vi va vg hI a0 ha0 hk0 x1) m_X11_tableAt wm_X11_83 (zrecv hs hP ha0 (zF_10 hk0) rfl) ⟨by decide, by decide⟩ hl.1 (Nat.le_of_ble_eq_true rfl) dX11_sum_2) (fun p_1 => ?_) (fun q_1 p_1 => ?_)
  · skip
    refine lv_astore_nN (lv' := [(3, .null), (0, .ref a0), (1, .int x1), (2, .int x2)]) hx hb dX11_sum_5 rfl hl (by decide) rfl (fun ls hl => ?_)
    refine lv_aload_nN hx hb dX11_sum_6 rfl (lv_at hl 0 rfl) ?_
    refine lv_ifnullN (tgt := 17) hx hb dX11_sum_7 (by decide) ?_
    refine lv_bipush (v := (-2)) hx hb dX11_sum_17 (by decide) ?_
    refine lv_goto (tgt := 28) hx hb dX11_sum_19 (by decide) ?_
    exact zaS hQ hx hb hr hlk trivial dX11_sum_28
  · skip
    obtain ⟨ha_q_1, hk_q_1, hr_q_1⟩ := p_1 _ rfl
    refine lv_astore_n (lv' := [(3, .ref q_1), (0, .ref a0), (1, .int x1), (2, .int x2)]) hx hb dX11_sum_5 rfl hl (by decide) rfl (fun ls hl => ?_)
    refine lv_aload_n hx hb dX11_sum_6 rfl (lv_at hl 0 rfl) ?_
    refine lv_ifnull hx hb dX11_sum_7 ?_
    refine lv_iload_n hx hb dX11_sum_10 rfl (lv_at hl 3 rfl) ?_
    refine zcS (zrS (As := [.int x2]) (rest := []) C hs hP hS (c_X11_isSeat l D K hO vi va vg hI x2) m_X11_isSeat wm_X11_87 ⟨by decide, by decide⟩ hl.1 (Nat.le_of_ble_eq_true rfl) dX11_sum_11) (fun x_2 p_2 => ?_)
    have pp_2 : (x_2.toInt ≠ 0 → 0 ≤ x2.toInt ∧ x2.toInt ≤ 3) := p_2.2
    refine bz_ne (tgt := 22) hx hb rfl dX11_sum_14 (by decide) (fun c_3 => ?_) (fun c_3 => ?_)
    · skip
      refine lv_aload_n hx hb dX11_sum_22 rfl (lv_at hl 0 rfl) ?_
      refine zg_8_8 C hs hP ha_q_1 hk_q_1 wf_X11_122 dX11_sum_23 ?_
      have hf_4 := hO.r (j := 8) ha_q_1 hk_q_1 (rfl : zX 8 8 = some (20, 4))
      refine lv_iload_n hx hb dX11_sum_26 rfl (lv_at hl 3 rfl) ?_
      have g_6 := z_rng x2
      have hin_5 : vp_in x2 (zn K (zr K q_1 8)) := vp_in_iff.mpr (by rw [(hf_4.2.2 (by decide))]; refine ⟨?_, ?_⟩ <;> omega)
      refine zld_20 C hs hP hf_4.1 hf_4.2.1 hin_5 dX11_sum_27 ?_
      exact zaS hQ hx hb hr hlk trivial dX11_sum_28
    · skip
      refine lv_bipush (v := (-2)) hx hb dX11_sum_17 (by decide) ?_
      refine lv_goto (tgt := 28) hx hb dX11_sum_19 (by decide) ?_
      exact zaS hQ hx hb hr hlk trivial dX11_sum_28
set_option maxHeartbeats 4000000 in
set_option maxRecDepth 100000 in
theorem c_X11_turn (l : Launch) (D : va_G) (K : zK) (hO : zOk K) (vi va : Nat → Nat → Int32) (vg : Nat → Nat → Option Nat) (hI : zI K (vi, va, vg)) (a0 : Nat) (ha0 : a0 ∈ zl K) (hk0 : zk K a0 = 10) (x1 : Int32) : Met l yX11_turn (zc yX11_turn cX11_turn 3 (some .int)) (rmd 1) (va_Pc [.ref a0, .int x1] (zB D K (vi, va, vg))) (vp_Si (fun r => True)) 0 0 (fun _ => False) := by
  refine zin (by decide) (Nat.le_of_ble_eq_true rfl) ?_
  intro p e s m args below meth c ls Q hQ C hr hlk hP hs hl
  have C : CallFix p m c cX11_turn 3 s args zw RX11 := C
  obtain ⟨hx, hb, hml, hown, hts⟩ := id C
  have hS : va_S (zA K) s.heap s.heap [] := va_S.rf
  have hl : lv_has ls 3 [(0, .ref a0), (1, .int x1)] := hl
  refine lv_aload_n hx hb dX11_turn_0 rfl (lv_at hl 0 rfl) ?_
  refine lv_iload_n hx hb dX11_turn_1 rfl (lv_at hl 1 rfl) ?_
  refine zcSq (zrV (As := [.int x1]) (b := a0) (rest := []) C hs hP hS (c_X11_tableAt l D K hO vi va vg hI a0 ha0 hk0 x1) m_X11_tableAt wm_X11_83 (zrecv hs hP ha0 (zF_10 hk0) rfl) ⟨by decide, by decide⟩ hl.1 (Nat.le_of_ble_eq_true rfl) dX11_turn_2) (fun p_1 => ?_) (fun q_1 p_1 => ?_)
  · skip
    refine lv_astore_nN (lv' := [(2, .null), (0, .ref a0), (1, .int x1)]) hx hb dX11_turn_5 rfl hl (by decide) rfl (fun ls hl => ?_)
    refine lv_aload_nN hx hb dX11_turn_6 rfl (lv_at hl 0 rfl) ?_
    refine lv_ifnonnullN hx hb dX11_turn_7 ?_
    refine lv_bipush (v := (-2)) hx hb dX11_turn_10 (by decide) ?_
    refine lv_goto (tgt := 22) hx hb dX11_turn_12 (by decide) ?_
    exact zaS hQ hx hb hr hlk trivial dX11_turn_22
  · skip
    obtain ⟨ha_q_1, hk_q_1, hr_q_1⟩ := p_1 _ rfl
    refine lv_astore_n (lv' := [(2, .ref q_1), (0, .ref a0), (1, .int x1)]) hx hb dX11_turn_5 rfl hl (by decide) rfl (fun ls hl => ?_)
    refine lv_aload_n hx hb dX11_turn_6 rfl (lv_at hl 0 rfl) ?_
    refine lv_ifnonnull (tgt := 15) hx hb dX11_turn_7 (by decide) ?_
    refine lv_aload_n hx hb dX11_turn_15 rfl (lv_at hl 0 rfl) ?_
    refine zg_8_13 C hs hP ha_q_1 hk_q_1 wf_X11_135 dX11_turn_16 ?_
    have hf_2 := hO.r (j := 13) ha_q_1 hk_q_1 (rfl : zX 8 13 = some (1, 0))
    refine zg_1_2 C hs hP hf_2.1 hf_2.2.1 wf_X11_139 dX11_turn_19 ?_
    exact zaS hQ hx hb hr hlk trivial dX11_turn_22
set_option maxHeartbeats 4000000 in
set_option maxRecDepth 100000 in
theorem c_X11_winner (l : Launch) (D : va_G) (K : zK) (hO : zOk K) (vi va : Nat → Nat → Int32) (vg : Nat → Nat → Option Nat) (hI : zI K (vi, va, vg)) (a0 : Nat) (ha0 : a0 ∈ zl K) (hk0 : zk K a0 = 10) (x1 : Int32) : Met l yX11_winner (zc yX11_winner cX11_winner 3 (some .int)) (rmd 1) (va_Pc [.ref a0, .int x1] (zB D K (vi, va, vg))) (vp_Si (fun r => True)) 0 0 (fun _ => False) := by
  refine zin (by decide) (Nat.le_of_ble_eq_true rfl) ?_
  intro p e s m args below meth c ls Q hQ C hr hlk hP hs hl
  have C : CallFix p m c cX11_winner 3 s args zw RX11 := C
  obtain ⟨hx, hb, hml, hown, hts⟩ := id C
  have hS : va_S (zA K) s.heap s.heap [] := va_S.rf
  have hl : lv_has ls 3 [(0, .ref a0), (1, .int x1)] := hl
  refine lv_aload_n hx hb dX11_winner_0 rfl (lv_at hl 0 rfl) ?_
  refine lv_iload_n hx hb dX11_winner_1 rfl (lv_at hl 1 rfl) ?_
  refine zcSq (zrV (As := [.int x1]) (b := a0) (rest := []) C hs hP hS (c_X11_tableAt l D K hO vi va vg hI a0 ha0 hk0 x1) m_X11_tableAt wm_X11_83 (zrecv hs hP ha0 (zF_10 hk0) rfl) ⟨by decide, by decide⟩ hl.1 (Nat.le_of_ble_eq_true rfl) dX11_winner_2) (fun p_1 => ?_) (fun q_1 p_1 => ?_)
  · skip
    refine lv_astore_nN (lv' := [(2, .null), (0, .ref a0), (1, .int x1)]) hx hb dX11_winner_5 rfl hl (by decide) rfl (fun ls hl => ?_)
    refine lv_aload_nN hx hb dX11_winner_6 rfl (lv_at hl 0 rfl) ?_
    refine lv_ifnonnullN hx hb dX11_winner_7 ?_
    refine lv_bipush (v := (-2)) hx hb dX11_winner_10 (by decide) ?_
    refine lv_goto (tgt := 22) hx hb dX11_winner_12 (by decide) ?_
    exact zaS hQ hx hb hr hlk trivial dX11_winner_22
  · skip
    obtain ⟨ha_q_1, hk_q_1, hr_q_1⟩ := p_1 _ rfl
    refine lv_astore_n (lv' := [(2, .ref q_1), (0, .ref a0), (1, .int x1)]) hx hb dX11_winner_5 rfl hl (by decide) rfl (fun ls hl => ?_)
    refine lv_aload_n hx hb dX11_winner_6 rfl (lv_at hl 0 rfl) ?_
    refine lv_ifnonnull (tgt := 15) hx hb dX11_winner_7 (by decide) ?_
    refine lv_aload_n hx hb dX11_winner_15 rfl (lv_at hl 0 rfl) ?_
    refine zg_8_13 C hs hP ha_q_1 hk_q_1 wf_X11_135 dX11_winner_16 ?_
    have hf_2 := hO.r (j := 13) ha_q_1 hk_q_1 (rfl : zX 8 13 = some (1, 0))
    refine zg_1_3 C hs hP hf_2.1 hf_2.2.1 wf_X11_218 dX11_winner_19 ?_
    exact zaS hQ hx hb hr hlk trivial dX11_winner_22
set_option maxHeartbeats 4000000 in
set_option maxRecDepth 100000 in
theorem c_X11_tie (l : Launch) (D : va_G) (K : zK) (hO : zOk K) (vi va : Nat → Nat → Int32) (vg : Nat → Nat → Option Nat) (hI : zI K (vi, va, vg)) (a0 : Nat) (ha0 : a0 ∈ zl K) (hk0 : zk K a0 = 10) (x1 : Int32) : Met l yX11_tie (zc yX11_tie cX11_tie 4 (some .int)) (rmd 1) (va_Pc [.ref a0, .int x1] (zB D K (vi, va, vg))) (vp_Si (fun r => True)) 0 0 (fun _ => False) := by
  refine zin (by decide) (Nat.le_of_ble_eq_true rfl) ?_
  intro p e s m args below meth c ls Q hQ C hr hlk hP hs hl
  have C : CallFix p m c cX11_tie 4 s args zw RX11 := C
  obtain ⟨hx, hb, hml, hown, hts⟩ := id C
  have hS : va_S (zA K) s.heap s.heap [] := va_S.rf
  have hl : lv_has ls 4 [(0, .ref a0), (1, .int x1)] := hl
  refine lv_aload_n hx hb dX11_tie_0 rfl (lv_at hl 0 rfl) ?_
  refine lv_iload_n hx hb dX11_tie_1 rfl (lv_at hl 1 rfl) ?_
  refine zcSq (zrV (As := [.int x1]) (b := a0) (rest := []) C hs hP hS (c_X11_tableAt l D K hO vi va vg hI a0 ha0 hk0 x1) m_X11_tableAt wm_X11_83 (zrecv hs hP ha0 (zF_10 hk0) rfl) ⟨by decide, by decide⟩ hl.1 (Nat.le_of_ble_eq_true rfl) dX11_tie_2) (fun p_1 => ?_) (fun q_1 p_1 => ?_)
  · skip
    refine lv_astore_nN (lv' := [(2, .null), (0, .ref a0), (1, .int x1)]) hx hb dX11_tie_5 rfl hl (by decide) rfl (fun ls hl => ?_)
    refine lv_aload_nN hx hb dX11_tie_6 rfl (lv_at hl 0 rfl) ?_
    refine lv_ifnonnullN hx hb dX11_tie_7 ?_
    refine lv_bipush (v := (-2)) hx hb dX11_tie_10 (by decide) ?_
    exact zaS hQ hx hb hr hlk trivial dX11_tie_12
  · skip
    obtain ⟨ha_q_1, hk_q_1, hr_q_1⟩ := p_1 _ rfl
    refine lv_astore_n (lv' := [(2, .ref q_1), (0, .ref a0), (1, .int x1)]) hx hb dX11_tie_5 rfl hl (by decide) rfl (fun ls hl => ?_)
    refine lv_aload_n hx hb dX11_tie_6 rfl (lv_at hl 0 rfl) ?_
    refine lv_ifnonnull (tgt := 13) hx hb dX11_tie_7 (by decide) ?_
    refine lv_aload_n hx hb dX11_tie_13 rfl (lv_at hl 0 rfl) ?_
    refine zg_8_8 C hs hP ha_q_1 hk_q_1 wf_X11_122 dX11_tie_14 ?_
    have hf_2 := hO.r (j := 8) ha_q_1 hk_q_1 (rfl : zX 8 8 = some (20, 4))
    refine lv_iconst (v := 0) hx hb dX11_tie_17 (by decide) ?_
    have hin_3 : vp_in 0 (zn K (zr K q_1 8)) := vp_in_iff.mpr (by rw [ti_0, (hf_2.2.2 (by decide))]; decide)
    refine zld_20 C hs hP hf_2.1 hf_2.2.1 hin_3 dX11_tie_18 ?_
    refine lv_aload_n hx hb dX11_tie_19 rfl (lv_at hl 0 rfl) ?_
    refine zg_8_8 C hs hP ha_q_1 hk_q_1 wf_X11_122 dX11_tie_20 ?_
    refine lv_iconst (v := 2) hx hb dX11_tie_23 (by decide) ?_
    have hin_4 : vp_in 2 (zn K (zr K q_1 8)) := vp_in_iff.mpr (by rw [ti_2, (hf_2.2.2 (by decide))]; decide)
    refine zld_20 C hs hP hf_2.1 hf_2.2.1 hin_4 dX11_tie_24 ?_
    refine lv_iadd hx hb dX11_tie_25 ?_
    refine lv_topi (fun x_5 ex_5 => ?_)
    refine lv_aload_n hx hb dX11_tie_26 rfl (lv_at hl 0 rfl) ?_
    refine zg_8_8 C hs hP ha_q_1 hk_q_1 wf_X11_122 dX11_tie_27 ?_
    refine lv_iconst (v := 1) hx hb dX11_tie_30 (by decide) ?_
    have hin_6 : vp_in 1 (zn K (zr K q_1 8)) := vp_in_iff.mpr (by rw [ti_1, (hf_2.2.2 (by decide))]; decide)
    refine zld_20 C hs hP hf_2.1 hf_2.2.1 hin_6 dX11_tie_31 ?_
    refine lv_isub hx hb dX11_tie_32 ?_
    refine lv_topi (fun x_7 ex_7 => ?_)
    refine lv_aload_n hx hb dX11_tie_33 rfl (lv_at hl 0 rfl) ?_
    refine zg_8_8 C hs hP ha_q_1 hk_q_1 wf_X11_122 dX11_tie_34 ?_
    refine lv_iconst (v := 3) hx hb dX11_tie_37 (by decide) ?_
    have hin_8 : vp_in 3 (zn K (zr K q_1 8)) := vp_in_iff.mpr (by rw [ti_3, (hf_2.2.2 (by decide))]; decide)
    refine zld_20 C hs hP hf_2.1 hf_2.2.1 hin_8 dX11_tie_38 ?_
    refine lv_isub hx hb dX11_tie_39 ?_
    refine lv_topi (fun x_9 ex_9 => ?_)
    refine lv_istore_n (lv' := [(3, .int x_9), (2, .ref q_1), (0, .ref a0), (1, .int x1)]) hx hb dX11_tie_40 rfl hl (by decide) rfl (fun ls hl => ?_)
    refine lv_iload_n hx hb dX11_tie_41 rfl (lv_at hl 0 rfl) ?_
    refine bz_le (tgt := 49) hx hb rfl dX11_tie_42 (by decide) (fun c_10 => ?_) (fun c_10 => ?_)
    · skip
      refine lv_iload_n hx hb dX11_tie_49 rfl (lv_at hl 0 rfl) ?_
      refine bz_ge (tgt := 57) hx hb rfl dX11_tie_50 (by decide) (fun c_11 => ?_) (fun c_11 => ?_)
      · skip
        refine lv_iconst (v := 2) hx hb dX11_tie_57 (by decide) ?_
        exact zaS hQ hx hb hr hlk trivial dX11_tie_58
      · skip
        refine lv_iconst (v := 1) hx hb dX11_tie_53 (by decide) ?_
        refine lv_goto (tgt := 58) hx hb dX11_tie_54 (by decide) ?_
        exact zaS hQ hx hb hr hlk trivial dX11_tie_58
    · skip
      refine lv_iconst (v := 0) hx hb dX11_tie_45 (by decide) ?_
      refine lv_goto (tgt := 58) hx hb dX11_tie_46 (by decide) ?_
      exact zaS hQ hx hb hr hlk trivial dX11_tie_58
set_option maxHeartbeats 4000000 in
set_option maxRecDepth 100000 in
theorem c_X11_digest (l : Launch) (D : va_G) (K : zK) (hO : zOk K) (vi va : Nat → Nat → Int32) (vg : Nat → Nat → Option Nat) (hI : zI K (vi, va, vg)) (a0 : Nat) (ha0 : a0 ∈ zl K) (hk0 : zk K a0 = 10) (x1 : Int32) : Met l yX11_digest (zc yX11_digest cX11_digest 5 (some .int)) (rmd 1) (va_Pc [.ref a0, .int x1] (zB D K (vi, va, vg))) (vp_Si (fun r => True)) 0 0 (fun _ => False) := by
  refine zin (by decide) (Nat.le_of_ble_eq_true rfl) ?_
  intro p e s m args below meth c ls Q hQ C hr hlk hP hs hl
  have C : CallFix p m c cX11_digest 5 s args zw RX11 := C
  obtain ⟨hx, hb, hml, hown, hts⟩ := id C
  have hS : va_S (zA K) s.heap s.heap [] := va_S.rf
  have hl : lv_has ls 5 [(0, .ref a0), (1, .int x1)] := hl
  refine lv_aload_n hx hb dX11_digest_0 rfl (lv_at hl 0 rfl) ?_
  refine lv_iload_n hx hb dX11_digest_1 rfl (lv_at hl 1 rfl) ?_
  refine zcSq (zrV (As := [.int x1]) (b := a0) (rest := []) C hs hP hS (c_X11_tableAt l D K hO vi va vg hI a0 ha0 hk0 x1) m_X11_tableAt wm_X11_83 (zrecv hs hP ha0 (zF_10 hk0) rfl) ⟨by decide, by decide⟩ hl.1 (Nat.le_of_ble_eq_true rfl) dX11_digest_2) (fun p_1 => ?_) (fun q_1 p_1 => ?_)
  · skip
    refine lv_astore_nN (lv' := [(2, .null), (0, .ref a0), (1, .int x1)]) hx hb dX11_digest_5 rfl hl (by decide) rfl (fun ls hl => ?_)
    refine lv_aload_nN hx hb dX11_digest_6 rfl (lv_at hl 0 rfl) ?_
    refine lv_ifnonnullN hx hb dX11_digest_7 ?_
    refine lv_bipush (v := (-2)) hx hb dX11_digest_10 (by decide) ?_
    exact zaS hQ hx hb hr hlk trivial dX11_digest_12
  · skip
    obtain ⟨ha_q_1, hk_q_1, hr_q_1⟩ := p_1 _ rfl
    refine lv_astore_n (lv' := [(2, .ref q_1), (0, .ref a0), (1, .int x1)]) hx hb dX11_digest_5 rfl hl (by decide) rfl (fun ls hl => ?_)
    refine lv_aload_n hx hb dX11_digest_6 rfl (lv_at hl 0 rfl) ?_
    refine lv_ifnonnull (tgt := 13) hx hb dX11_digest_7 (by decide) ?_
    refine lv_bipush (v := 17) hx hb dX11_digest_13 (by decide) ?_
    refine lv_istore_n (lv' := [(3, .int 17), (2, .ref q_1), (0, .ref a0), (1, .int x1)]) hx hb dX11_digest_15 rfl hl (by decide) rfl (fun ls hl => ?_)
    refine lv_iconst (v := 0) hx hb dX11_digest_16 (by decide) ?_
    refine lv_istore (lv' := [(4, .int 0), (3, .int 17), (2, .ref q_1), (0, .ref a0), (1, .int x1)]) hx hb dX11_digest_17 hl (by decide) rfl (fun ls hl => ?_)
    have L_19_4 : ∀ (n_4 : Nat) (y_2 : Int32) (y_3 : Int32) (ls : Array Slot), (2147483648 - y_2.toInt).toNat < n_4 → 0 ≤ y_2.toInt → lv_has ls 5 [(4, .int y_2), (3, .int y_3), (2, .ref q_1), (0, .ref a0), (1, .int x1)] → W p l e (rmd 1) s m args below meth c s.heap [] 0 0 Q (F0 m 19 ls []) := by
      intro n_4
      induction n_4 with
      | zero => intro y_2 y_3 ls hm_4; exact absurd hm_4 (Nat.not_lt_zero _)
      | succ n_4 ih_4 =>
        intro y_2 y_3 ls hm_4 iv_5_0 hl
        refine lv_iload hx hb dX11_digest_19 (lv_at hl 0 rfl) ?_
        refine lv_iconst (v := 4) hx hb dX11_digest_21 (by decide) ?_
        refine bi_ge (tgt := 42) hx hb rfl ti_4 dX11_digest_22 (by decide) (fun c_6 => ?_) (fun c_6 => ?_)
        · skip
          refine lv_aload_n hx hb dX11_digest_42 rfl (lv_at hl 2 rfl) ?_
          refine zg_8_10 C hs hP ha_q_1 hk_q_1 wf_X11_201 dX11_digest_43 ?_
          have hf_12 := hO.r (j := 10) ha_q_1 hk_q_1 (rfl : zX 8 10 = some (7, 0))
          refine lv_iload_n hx hb dX11_digest_46 rfl (lv_at hl 1 rfl) ?_
          refine zcS (zrV (As := [.int y_3]) (b := zr K q_1 10) (rest := []) C hs hP hS (c_X8_digestFrom l D K hO vi va vg hI (zr K q_1 10) hf_12.1 hf_12.2.1 y_3) m_X8_digestFrom wm_X11_281 (zrecv hs hP hf_12.1 (zF_7 hf_12.2.1) rfl) ⟨by decide, by decide⟩ hl.1 (Nat.le_of_ble_eq_true rfl) dX11_digest_47) (fun x_13 p_13 => ?_)
          refine lv_istore_n (lv' := [(3, .int x_13), (4, .int y_2), (2, .ref q_1), (0, .ref a0), (1, .int x1)]) hx hb dX11_digest_50 rfl hl (by decide) rfl (fun ls hl => ?_)
          refine lv_iconst (v := 0) hx hb dX11_digest_51 (by decide) ?_
          refine lv_istore (lv' := [(4, .int 0), (3, .int x_13), (2, .ref q_1), (0, .ref a0), (1, .int x1)]) hx hb dX11_digest_52 hl (by decide) rfl (fun ls hl => ?_)
          have L_54_16 : ∀ (n_16 : Nat) (y_14 : Int32) (y_15 : Int32) (ls : Array Slot), (2147483648 - y_14.toInt).toNat < n_16 → 0 ≤ y_14.toInt → lv_has ls 5 [(4, .int y_14), (3, .int y_15), (2, .ref q_1), (0, .ref a0), (1, .int x1)] → W p l e (rmd 1) s m args below meth c s.heap [] 0 0 Q (F0 m 54 ls []) := by
            intro n_16
            induction n_16 with
            | zero => intro y_14 y_15 ls hm_16; exact absurd hm_16 (Nat.not_lt_zero _)
            | succ n_16 ih_16 =>
              intro y_14 y_15 ls hm_16 iv_17_0 hl
              refine lv_iload hx hb dX11_digest_54 (lv_at hl 0 rfl) ?_
              refine lv_iconst (v := 2) hx hb dX11_digest_56 (by decide) ?_
              refine bi_ge (tgt := 96) hx hb rfl ti_2 dX11_digest_57 (by decide) (fun c_18 => ?_) (fun c_18 => ?_)
              · skip
                refine lv_iconst (v := 0) hx hb dX11_digest_96 (by decide) ?_
                refine lv_istore (lv' := [(4, .int 0), (3, .int y_15), (2, .ref q_1), (0, .ref a0), (1, .int x1)]) hx hb dX11_digest_97 hl (by decide) rfl (fun ls hl => ?_)
                have L_99_35 : ∀ (n_35 : Nat) (y_33 : Int32) (y_34 : Int32) (ls : Array Slot), (2147483648 - y_33.toInt).toNat < n_35 → 0 ≤ y_33.toInt → lv_has ls 5 [(4, .int y_33), (3, .int y_34), (2, .ref q_1), (0, .ref a0), (1, .int x1)] → W p l e (rmd 1) s m args below meth c s.heap [] 0 0 Q (F0 m 99 ls []) := by
                  intro n_35
                  induction n_35 with
                  | zero => intro y_33 y_34 ls hm_35; exact absurd hm_35 (Nat.not_lt_zero _)
                  | succ n_35 ih_35 =>
                    intro y_33 y_34 ls hm_35 iv_36_0 hl
                    refine lv_iload hx hb dX11_digest_99 (lv_at hl 0 rfl) ?_
                    refine lv_iconst (v := 4) hx hb dX11_digest_101 (by decide) ?_
                    refine bi_ge (tgt := 124) hx hb rfl ti_4 dX11_digest_102 (by decide) (fun c_37 => ?_) (fun c_37 => ?_)
                    · skip
                      refine lv_bipush (v := 31) hx hb dX11_digest_124 (by decide) ?_
                      refine lv_iload_n hx hb dX11_digest_126 rfl (lv_at hl 1 rfl) ?_
                      refine lv_imul hx hb dX11_digest_127 ?_
                      refine lv_topi (fun x_46 ex_46 => ?_)
                      refine lv_aload_n hx hb dX11_digest_128 rfl (lv_at hl 2 rfl) ?_
                      refine zg_8_13 C hs hP ha_q_1 hk_q_1 wf_X11_135 dX11_digest_129 ?_
                      have hf_47 := hO.r (j := 13) ha_q_1 hk_q_1 (rfl : zX 8 13 = some (1, 0))
                      refine zg_1_2 C hs hP hf_47.1 hf_47.2.1 wf_X11_139 dX11_digest_132 ?_
                      refine lv_iadd hx hb dX11_digest_135 ?_
                      refine lv_topi (fun x_48 ex_48 => ?_)
                      exact zaS hQ hx hb hr hlk trivial dX11_digest_136
                    · skip
                      refine lv_bipush (v := 31) hx hb dX11_digest_105 (by decide) ?_
                      refine lv_iload_n hx hb dX11_digest_107 rfl (lv_at hl 1 rfl) ?_
                      refine lv_imul hx hb dX11_digest_108 ?_
                      refine lv_topi (fun x_49 ex_49 => ?_)
                      refine lv_aload_n hx hb dX11_digest_109 rfl (lv_at hl 2 rfl) ?_
                      refine zg_8_8 C hs hP ha_q_1 hk_q_1 wf_X11_122 dX11_digest_110 ?_
                      have hf_50 := hO.r (j := 8) ha_q_1 hk_q_1 (rfl : zX 8 8 = some (20, 4))
                      refine lv_iload hx hb dX11_digest_113 (lv_at hl 0 rfl) ?_
                      have g_52 := z_rng y_33
                      have hin_51 : vp_in y_33 (zn K (zr K q_1 8)) := vp_in_iff.mpr (by rw [(hf_50.2.2 (by decide))]; refine ⟨?_, ?_⟩ <;> omega)
                      refine zld_20 C hs hP hf_50.1 hf_50.2.1 hin_51 dX11_digest_115 ?_
                      refine lv_iadd hx hb dX11_digest_116 ?_
                      refine lv_topi (fun x_53 ex_53 => ?_)
                      refine lv_istore_n (lv' := [(3, .int x_53), (4, .int y_33), (2, .ref q_1), (0, .ref a0), (1, .int x1)]) hx hb dX11_digest_117 rfl hl (by decide) rfl (fun ls hl => ?_)
                      obtain ⟨x_54, ex_54⟩ : ∃ y : Int32, y = y_33 + 1 := ⟨_, rfl⟩
                      refine lv_iinc (v := x_54) (lv' := [(4, .int x_54), (3, .int x_53), (2, .ref q_1), (0, .ref a0), (1, .int x1)]) hx hb dX11_digest_118 hl (k := 1) rfl (by rw [ex_54]; rfl) (by decide) rfl (fun ls hl => ?_)
                      refine lv_goto (tgt := 99) hx hb dX11_digest_121 (by decide) ?_
                      obtain ⟨f_54, l_54, u_54⟩ := z_add ex_54 rfl ti_1
                      have g_55 := z_rng y_34
                      obtain ⟨f_49, l_49, u_49⟩ := z_mul ex_49 ti_31 rfl
                      have g_56 := z_rng (va (zr K q_1 8) y_33.toNatClampNeg)
                      obtain ⟨f_53, l_53, u_53⟩ := z_add ex_53 rfl rfl
                      exact ih_35 x_54 x_53 _ (by omega) (by omega) (lv_sub hl [0, 1, 2, 3, 4] rfl)
                have g_57 := z_rng y_15
                have g_58 := z_rng y_14
                exact L_99_35 _ 0 y_15 _ (Nat.lt_succ_self _) (by simp only [ti_0]; omega) (lv_sub hl [0, 1, 2, 3, 4] rfl)
              · skip
                refine lv_bipush (v := 31) hx hb dX11_digest_60 (by decide) ?_
                refine lv_bipush (v := 31) hx hb dX11_digest_62 (by decide) ?_
                refine lv_iload_n hx hb dX11_digest_64 rfl (lv_at hl 1 rfl) ?_
                refine lv_imul hx hb dX11_digest_65 ?_
                refine lv_topi (fun x_59 ex_59 => ?_)
                refine lv_aload_n hx hb dX11_digest_66 rfl (lv_at hl 2 rfl) ?_
                refine zg_8_13 C hs hP ha_q_1 hk_q_1 wf_X11_135 dX11_digest_67 ?_
                have hf_60 := hO.r (j := 13) ha_q_1 hk_q_1 (rfl : zX 8 13 = some (1, 0))
                refine zg_1_11 C hs hP hf_60.1 hf_60.2.1 wf_X11_224 dX11_digest_70 ?_
                have hf_61 := hO.r (j := 11) hf_60.1 hf_60.2.1 (rfl : zX 1 11 = some (20, 2))
                refine lv_iload hx hb dX11_digest_73 (lv_at hl 0 rfl) ?_
                have g_63 := z_rng y_14
                have hin_62 : vp_in y_14 (zn K (zr K (zr K q_1 13) 11)) := vp_in_iff.mpr (by rw [(hf_61.2.2 (by decide))]; refine ⟨?_, ?_⟩ <;> omega)
                refine zld_20 C hs hP hf_61.1 hf_61.2.1 hin_62 dX11_digest_75 ?_
                refine lv_iadd hx hb dX11_digest_76 ?_
                refine lv_topi (fun x_64 ex_64 => ?_)
                refine lv_imul hx hb dX11_digest_77 ?_
                refine lv_topi (fun x_65 ex_65 => ?_)
                refine lv_aload_n hx hb dX11_digest_78 rfl (lv_at hl 2 rfl) ?_
                refine zg_8_13 C hs hP ha_q_1 hk_q_1 wf_X11_135 dX11_digest_79 ?_
                refine zg_1_12 C hs hP hf_60.1 hf_60.2.1 wf_X11_227 dX11_digest_82 ?_
                have hf_66 := hO.r (j := 12) hf_60.1 hf_60.2.1 (rfl : zX 1 12 = some (20, 2))
                refine lv_iload hx hb dX11_digest_85 (lv_at hl 0 rfl) ?_
                have hin_67 : vp_in y_14 (zn K (zr K (zr K q_1 13) 12)) := vp_in_iff.mpr (by rw [(hf_66.2.2 (by decide))]; refine ⟨?_, ?_⟩ <;> omega)
                refine zld_20 C hs hP hf_66.1 hf_66.2.1 hin_67 dX11_digest_87 ?_
                refine lv_iadd hx hb dX11_digest_88 ?_
                refine lv_topi (fun x_68 ex_68 => ?_)
                refine lv_istore_n (lv' := [(3, .int x_68), (4, .int y_14), (2, .ref q_1), (0, .ref a0), (1, .int x1)]) hx hb dX11_digest_89 rfl hl (by decide) rfl (fun ls hl => ?_)
                obtain ⟨x_69, ex_69⟩ : ∃ y : Int32, y = y_14 + 1 := ⟨_, rfl⟩
                refine lv_iinc (v := x_69) (lv' := [(4, .int x_69), (3, .int x_68), (2, .ref q_1), (0, .ref a0), (1, .int x1)]) hx hb dX11_digest_90 hl (k := 1) rfl (by rw [ex_69]; rfl) (by decide) rfl (fun ls hl => ?_)
                refine lv_goto (tgt := 54) hx hb dX11_digest_93 (by decide) ?_
                obtain ⟨f_69, l_69, u_69⟩ := z_add ex_69 rfl ti_1
                have g_70 := z_rng y_15
                obtain ⟨f_59, l_59, u_59⟩ := z_mul ex_59 ti_31 rfl
                have g_71 := z_rng (va (zr K (zr K q_1 13) 11) y_14.toNatClampNeg)
                obtain ⟨f_64, l_64, u_64⟩ := z_add ex_64 rfl rfl
                obtain ⟨f_65, l_65, u_65⟩ := z_mul ex_65 ti_31 rfl
                have g_72 := z_rng (va (zr K (zr K q_1 13) 12) y_14.toNatClampNeg)
                obtain ⟨f_68, l_68, u_68⟩ := z_add ex_68 rfl rfl
                exact ih_16 x_69 x_68 _ (by omega) (by omega) (lv_sub hl [0, 1, 2, 3, 4] rfl)
          have g_73 := z_rng x_13
          have g_74 := z_rng y_2
          exact L_54_16 _ 0 x_13 _ (Nat.lt_succ_self _) (by simp only [ti_0]; omega) (lv_sub hl [0, 1, 2, 3, 4] rfl)
        · skip
          refine lv_aload_n hx hb dX11_digest_25 rfl (lv_at hl 2 rfl) ?_
          refine lv_iload hx hb dX11_digest_26 (lv_at hl 0 rfl) ?_
          refine zcSq (zrV (As := [.int y_2]) (b := q_1) (rest := []) C hs hP hS (c_X9_handOf l D K hO vi va vg hI q_1 ha_q_1 hk_q_1 y_2) m_X9_handOf wm_X11_208 (zrecv hs hP ha_q_1 (zF_8 hk_q_1) rfl) ⟨by decide, by decide⟩ hl.1 (Nat.le_of_ble_eq_true rfl) dX11_digest_28) (fun p_75 => ?_) (fun q_75 p_75 => ?_)
          · skip
            obtain ⟨q9, h9, -⟩ := p_75; cases h9
          · skip
            obtain ⟨q9, h9, h8, h7⟩ := p_75
            cases h9
            have h8_q_75 := h8; have h7_q_75 := h7; clear h8 h7
            refine lv_iload_n hx hb dX11_digest_31 rfl (lv_at hl 1 rfl) ?_
            refine zcS (zrV (As := [.int y_3]) (b := q_75) (rest := []) C hs hP hS (c_X8_digestFrom l D K hO vi va vg hI q_75 h8_q_75 h7_q_75 y_3) m_X8_digestFrom wm_X11_281 (zrecv hs hP h8_q_75 (zF_7 h7_q_75) rfl) ⟨by decide, by decide⟩ hl.1 (Nat.le_of_ble_eq_true rfl) dX11_digest_32) (fun x_76 p_76 => ?_)
            refine lv_istore_n (lv' := [(3, .int x_76), (4, .int y_2), (2, .ref q_1), (0, .ref a0), (1, .int x1)]) hx hb dX11_digest_35 rfl hl (by decide) rfl (fun ls hl => ?_)
            obtain ⟨x_77, ex_77⟩ : ∃ y : Int32, y = y_2 + 1 := ⟨_, rfl⟩
            refine lv_iinc (v := x_77) (lv' := [(4, .int x_77), (3, .int x_76), (2, .ref q_1), (0, .ref a0), (1, .int x1)]) hx hb dX11_digest_36 hl (k := 1) rfl (by rw [ex_77]; rfl) (by decide) rfl (fun ls hl => ?_)
            refine lv_goto (tgt := 19) hx hb dX11_digest_39 (by decide) ?_
            have g_78 := z_rng y_2
            obtain ⟨f_77, l_77, u_77⟩ := z_add ex_77 rfl ti_1
            have g_79 := z_rng x_76
            exact ih_4 x_77 x_76 _ (by omega) (by omega) (lv_sub hl [0, 1, 2, 3, 4] rfl)
    exact L_19_4 _ 0 17 _ (Nat.lt_succ_self _) (by simp only [ti_0, ti_17]; omega) (lv_sub hl [0, 1, 2, 3, 4] rfl)
set_option maxHeartbeats 4000000 in
set_option maxRecDepth 100000 in
theorem c_X11_trace (l : Launch) (D : va_G) (K : zK) (hO : zOk K) (vi va : Nat → Nat → Int32) (vg : Nat → Nat → Option Nat) (hI : zI K (vi, va, vg)) (a0 : Nat) (ha0 : a0 ∈ zl K) (hk0 : zk K a0 = 10) (x1 : Int32) : Met l yX11_trace (zc yX11_trace cX11_trace 2 (some .int)) (rmd 2) (va_Pc [.ref a0, .int x1] (zB D K (vi, va, vg))) (vp_Si (fun r => True)) 0 0 (fun _ => False) := by
  refine zin (by decide) (Nat.le_of_ble_eq_true rfl) ?_
  intro p e s m args below meth c ls Q hQ C hr hlk hP hs hl
  have C : CallFix p m c cX11_trace 2 s args zw RX11 := C
  obtain ⟨hx, hb, hml, hown, hts⟩ := id C
  have hS : va_S (zA K) s.heap s.heap [] := va_S.rf
  have hl : lv_has ls 2 [(0, .ref a0), (1, .int x1)] := hl
  refine lv_aload_n hx hb dX11_trace_0 rfl (lv_at hl 0 rfl) ?_
  refine zg_10_6 C hs hP ha0 hk0 wf_X11_43 dX11_trace_1 ?_
  have hf_1 := hO.r (j := 6) ha0 hk0 (rfl : zX 10 6 = some (5, 0))
  refine lv_iload_n hx hb dX11_trace_4 rfl (lv_at hl 1 rfl) ?_
  refine zcS (zrV (As := [.int x1]) (b := zr K a0 6) (rest := []) C hs hP hS (c_X6_bodyAt l D K hO vi va vg hI (zr K a0 6) hf_1.1 hf_1.2.1 x1) m_X6_bodyAt wm_X11_287 (zrecv hs hP hf_1.1 (zF_5 hf_1.2.1) rfl) ⟨by decide, by decide⟩ hl.1 (Nat.le_of_ble_eq_true rfl) dX11_trace_5) (fun x_2 p_2 => ?_)
  exact zaS hQ hx hb hr hlk trivial dX11_trace_8
set_option maxHeartbeats 4000000 in
set_option maxRecDepth 100000 in
theorem c_X11_count (l : Launch) (D : va_G) (K : zK) (hO : zOk K) (vi va : Nat → Nat → Int32) (vg : Nat → Nat → Option Nat) (hI : zI K (vi, va, vg)) (a0 : Nat) (ha0 : a0 ∈ zl K) (hk0 : zk K a0 = 10) (x1 : Int32) : Met l yX11_count (zc yX11_count cX11_count 2 (some .int)) (rmd 2) (va_Pc [.ref a0, .int x1] (zB D K (vi, va, vg))) (vp_Si (fun r => True)) 0 0 (fun _ => False) := by
  refine zin (by decide) (Nat.le_of_ble_eq_true rfl) ?_
  intro p e s m args below meth c ls Q hQ C hr hlk hP hs hl
  have C : CallFix p m c cX11_count 2 s args zw RX11 := C
  obtain ⟨hx, hb, hml, hown, hts⟩ := id C
  have hS : va_S (zA K) s.heap s.heap [] := va_S.rf
  have hl : lv_has ls 2 [(0, .ref a0), (1, .int x1)] := hl
  refine lv_iload_n hx hb dX11_count_0 rfl (lv_at hl 1 rfl) ?_
  rcases Classical.em (x1.toInt = 0) with c_1 | c_1
  · refine lv_tableIn (tgt := 36) hx hb dX11_count_1 (by omega) (by omega) (by rw [c_1]; rfl) (by decide) ?_
    refine lv_aload_n hx hb dX11_count_36 rfl (lv_at hl 0 rfl) ?_
    refine zg_10_6 C hs hP ha0 hk0 wf_X11_43 dX11_count_37 ?_
    have hf_2 := hO.r (j := 6) ha0 hk0 (rfl : zX 10 6 = some (5, 0))
    refine zg_5_5 C hs hP hf_2.1 hf_2.2.1 wf_X11_293 dX11_count_40 ?_
    exact zaS hQ hx hb hr hlk trivial dX11_count_43
  · have d_3 := c_1
    rcases Classical.em (x1.toInt = 1) with c_4 | c_4
    · refine lv_tableIn (tgt := 44) hx hb dX11_count_1 (by omega) (by omega) (by rw [c_4]; rfl) (by decide) ?_
      refine lv_aload_n hx hb dX11_count_44 rfl (lv_at hl 0 rfl) ?_
      refine zg_10_6 C hs hP ha0 hk0 wf_X11_43 dX11_count_45 ?_
      have hf_5 := hO.r (j := 6) ha0 hk0 (rfl : zX 10 6 = some (5, 0))
      refine zg_5_4 C hs hP hf_5.1 hf_5.2.1 wf_X11_296 dX11_count_48 ?_
      exact zaS hQ hx hb hr hlk trivial dX11_count_51
    · have d_6 := c_4
      rcases Classical.em (x1.toInt = 2) with c_7 | c_7
      · refine lv_tableIn (tgt := 52) hx hb dX11_count_1 (by omega) (by omega) (by rw [c_7]; rfl) (by decide) ?_
        refine lv_aload_n hx hb dX11_count_52 rfl (lv_at hl 0 rfl) ?_
        refine zg_10_6 C hs hP ha0 hk0 wf_X11_43 dX11_count_53 ?_
        have hf_8 := hO.r (j := 6) ha0 hk0 (rfl : zX 10 6 = some (5, 0))
        refine zg_5_6 C hs hP hf_8.1 hf_8.2.1 wf_X11_148 dX11_count_56 ?_
        exact zaS hQ hx hb hr hlk trivial dX11_count_59
      · have d_9 := c_7
        rcases Classical.em (x1.toInt = 3) with c_10 | c_10
        · refine lv_tableIn (tgt := 60) hx hb dX11_count_1 (by omega) (by omega) (by rw [c_10]; rfl) (by decide) ?_
          refine lv_aload_n hx hb dX11_count_60 rfl (lv_at hl 0 rfl) ?_
          refine zcS (zrV (As := []) (b := a0) (rest := []) C hs hP hS (c_X11_tablesThere l D K hO vi va vg hI a0 ha0 hk0) m_X11_tablesThere wm_X11_299 (zrecv hs hP ha0 (zF_10 hk0) rfl) ⟨by decide, by decide⟩ hl.1 (Nat.le_of_ble_eq_true rfl) dX11_count_61) (fun x_11 p_11 => ?_)
          exact zaS hQ hx hb hr hlk trivial dX11_count_64
        · have d_12 := c_10
          rcases Classical.em (x1.toInt = 4) with c_13 | c_13
          · refine lv_tableIn (tgt := 65) hx hb dX11_count_1 (by omega) (by omega) (by rw [c_13]; rfl) (by decide) ?_
            refine lv_aload_n hx hb dX11_count_65 rfl (lv_at hl 0 rfl) ?_
            refine zcS (zrV (As := []) (b := a0) (rest := []) C hs hP hS (c_X11_gamesThere l D K hO vi va vg hI a0 ha0 hk0) m_X11_gamesThere wm_X11_303 (zrecv hs hP ha0 (zF_10 hk0) rfl) ⟨by decide, by decide⟩ hl.1 (Nat.le_of_ble_eq_true rfl) dX11_count_66) (fun x_14 p_14 => ?_)
            exact zaS hQ hx hb hr hlk trivial dX11_count_69
          · have d_15 := c_13
            refine lv_tableOut (tgt := 70) hx hb dX11_count_1 (by omega) (by decide) ?_
            refine lv_bipush (v := (-3)) hx hb dX11_count_70 (by decide) ?_
            exact zaS hQ hx hb hr hlk trivial dX11_count_72
set_option maxHeartbeats 4000000 in
set_option maxRecDepth 100000 in
theorem c_X11_hand (l : Launch) (D : va_G) (K : zK) (hO : zOk K) (vi va : Nat → Nat → Int32) (vg : Nat → Nat → Option Nat) (hI : zI K (vi, va, vg)) (a0 : Nat) (ha0 : a0 ∈ zl K) (hk0 : zk K a0 = 10) (x1 : Int32) (x2 : Int32) (x3 : Int32) : Met l yX11_hand (zc yX11_hand cX11_hand 6 (some .int)) (rmd 1) (va_Pc [.ref a0, .int x1, .int x2, .int x3] (zB D K (vi, va, vg))) (vp_Si (fun r => True)) 0 0 (fun _ => False) := by
  refine zin (by decide) (Nat.le_of_ble_eq_true rfl) ?_
  intro p e s m args below meth c ls Q hQ C hr hlk hP hs hl
  have C : CallFix p m c cX11_hand 6 s args zw RX11 := C
  obtain ⟨hx, hb, hml, hown, hts⟩ := id C
  have hS : va_S (zA K) s.heap s.heap [] := va_S.rf
  have hl : lv_has ls 6 [(0, .ref a0), (1, .int x1), (2, .int x2), (3, .int x3)] := hl
  refine lv_aload_n hx hb dX11_hand_0 rfl (lv_at hl 0 rfl) ?_
  refine lv_iload_n hx hb dX11_hand_1 rfl (lv_at hl 1 rfl) ?_
  refine zcSq (zrV (As := [.int x1]) (b := a0) (rest := []) C hs hP hS (c_X11_tableAt l D K hO vi va vg hI a0 ha0 hk0 x1) m_X11_tableAt wm_X11_83 (zrecv hs hP ha0 (zF_10 hk0) rfl) ⟨by decide, by decide⟩ hl.1 (Nat.le_of_ble_eq_true rfl) dX11_hand_2) (fun p_1 => ?_) (fun q_1 p_1 => ?_)
  · skip
    refine lv_astoreN (lv' := [(4, .null), (0, .ref a0), (1, .int x1), (2, .int x2), (3, .int x3)]) hx hb dX11_hand_5 hl (by decide) rfl (fun ls hl => ?_)
    refine lv_aloadN hx hb dX11_hand_7 (lv_at hl 0 rfl) ?_
    refine lv_ifnullN (tgt := 19) hx hb dX11_hand_9 (by decide) ?_
    refine lv_bipush (v := (-2)) hx hb dX11_hand_19 (by decide) ?_
    exact zaS hQ hx hb hr hlk trivial dX11_hand_21
  · skip
    obtain ⟨ha_q_1, hk_q_1, hr_q_1⟩ := p_1 _ rfl
    refine lv_astore (lv' := [(4, .ref q_1), (0, .ref a0), (1, .int x1), (2, .int x2), (3, .int x3)]) hx hb dX11_hand_5 hl (by decide) rfl (fun ls hl => ?_)
    refine lv_aload hx hb dX11_hand_7 (lv_at hl 0 rfl) ?_
    refine lv_ifnull hx hb dX11_hand_9 ?_
    refine lv_iload_n hx hb dX11_hand_12 rfl (lv_at hl 3 rfl) ?_
    refine zcS (zrS (As := [.int x2]) (rest := []) C hs hP hS (c_X11_isSeat l D K hO vi va vg hI x2) m_X11_isSeat wm_X11_87 ⟨by decide, by decide⟩ hl.1 (Nat.le_of_ble_eq_true rfl) dX11_hand_13) (fun x_2 p_2 => ?_)
    have pp_2 : (x_2.toInt ≠ 0 → 0 ≤ x2.toInt ∧ x2.toInt ≤ 3) := p_2.2
    refine bz_ne (tgt := 22) hx hb rfl dX11_hand_16 (by decide) (fun c_3 => ?_) (fun c_3 => ?_)
    · skip
      refine lv_aload hx hb dX11_hand_22 (lv_at hl 0 rfl) ?_
      refine lv_iload_n hx hb dX11_hand_24 rfl (lv_at hl 3 rfl) ?_
      refine zcSq (zrV (As := [.int x2]) (b := q_1) (rest := []) C hs hP hS (c_X9_handOf l D K hO vi va vg hI q_1 ha_q_1 hk_q_1 x2) m_X9_handOf wm_X11_208 (zrecv hs hP ha_q_1 (zF_8 hk_q_1) rfl) ⟨by decide, by decide⟩ hl.1 (Nat.le_of_ble_eq_true rfl) dX11_hand_25) (fun p_4 => ?_) (fun q_4 p_4 => ?_)
      · skip
        obtain ⟨q9, h9, -⟩ := p_4; cases h9
      · skip
        obtain ⟨q9, h9, h8, h7⟩ := p_4
        cases h9
        have h8_q_4 := h8; have h7_q_4 := h7; clear h8 h7
        refine lv_astore (lv' := [(5, .ref q_4), (4, .ref q_1), (0, .ref a0), (1, .int x1), (2, .int x2), (3, .int x3)]) hx hb dX11_hand_28 hl (by decide) rfl (fun ls hl => ?_)
        refine lv_aload hx hb dX11_hand_30 (lv_at hl 0 rfl) ?_
        refine zg_7_1 C hs hP h8_q_4 h7_q_4 wf_X11_212 dX11_hand_32 ?_
        refine bz_ge (tgt := 43) hx hb rfl dX11_hand_35 (by decide) (fun c_5 => ?_) (fun c_5 => ?_)
        · skip
          refine lv_aload hx hb dX11_hand_43 (lv_at hl 0 rfl) ?_
          refine lv_iload_n hx hb dX11_hand_45 rfl (lv_at hl 5 rfl) ?_
          refine zcS (zrV (As := [.int x3]) (b := q_4) (rest := []) C hs hP hS (c_X8_at l D K hO vi va vg hI q_4 h8_q_4 h7_q_4 x3) m_X8_at wm_X11_204 (zrecv hs hP h8_q_4 (zF_7 h7_q_4) rfl) ⟨by decide, by decide⟩ hl.1 (Nat.le_of_ble_eq_true rfl) dX11_hand_46) (fun x_6 p_6 => ?_)
          exact zaS hQ hx hb hr hlk trivial dX11_hand_49
        · skip
          refine lv_bipush (v := (-12)) hx hb dX11_hand_38 (by decide) ?_
          refine lv_goto (tgt := 49) hx hb dX11_hand_40 (by decide) ?_
          exact zaS hQ hx hb hr hlk trivial dX11_hand_49
    · skip
      refine lv_bipush (v := (-2)) hx hb dX11_hand_19 (by decide) ?_
      exact zaS hQ hx hb hr hlk trivial dX11_hand_21
set_option maxHeartbeats 4000000 in
set_option maxRecDepth 100000 in
theorem c_X11_won (l : Launch) (D : va_G) (K : zK) (hO : zOk K) (vi va : Nat → Nat → Int32) (vg : Nat → Nat → Option Nat) (hI : zI K (vi, va, vg)) (a0 : Nat) (ha0 : a0 ∈ zl K) (hk0 : zk K a0 = 10) (x1 : Int32) (x2 : Int32) (x3 : Int32) : Met l yX11_won (zc yX11_won cX11_won 5 (some .int)) (rmd 1) (va_Pc [.ref a0, .int x1, .int x2, .int x3] (zB D K (vi, va, vg))) (vp_Si (fun r => True)) 0 0 (fun _ => False) := by
  refine zin (by decide) (Nat.le_of_ble_eq_true rfl) ?_
  intro p e s m args below meth c ls Q hQ C hr hlk hP hs hl
  have C : CallFix p m c cX11_won 5 s args zw RX11 := C
  obtain ⟨hx, hb, hml, hown, hts⟩ := id C
  have hS : va_S (zA K) s.heap s.heap [] := va_S.rf
  have hl : lv_has ls 5 [(0, .ref a0), (1, .int x1), (2, .int x2), (3, .int x3)] := hl
  refine lv_aload_n hx hb dX11_won_0 rfl (lv_at hl 0 rfl) ?_
  refine lv_iload_n hx hb dX11_won_1 rfl (lv_at hl 1 rfl) ?_
  refine zcSq (zrV (As := [.int x1]) (b := a0) (rest := []) C hs hP hS (c_X11_tableAt l D K hO vi va vg hI a0 ha0 hk0 x1) m_X11_tableAt wm_X11_83 (zrecv hs hP ha0 (zF_10 hk0) rfl) ⟨by decide, by decide⟩ hl.1 (Nat.le_of_ble_eq_true rfl) dX11_won_2) (fun p_1 => ?_) (fun q_1 p_1 => ?_)
  · skip
    refine lv_astoreN (lv' := [(4, .null), (0, .ref a0), (1, .int x1), (2, .int x2), (3, .int x3)]) hx hb dX11_won_5 hl (by decide) rfl (fun ls hl => ?_)
    refine lv_aloadN hx hb dX11_won_7 (lv_at hl 0 rfl) ?_
    refine lv_ifnullN (tgt := 19) hx hb dX11_won_9 (by decide) ?_
    refine lv_bipush (v := (-2)) hx hb dX11_won_19 (by decide) ?_
    exact zaS hQ hx hb hr hlk trivial dX11_won_21
  · skip
    obtain ⟨ha_q_1, hk_q_1, hr_q_1⟩ := p_1 _ rfl
    refine lv_astore (lv' := [(4, .ref q_1), (0, .ref a0), (1, .int x1), (2, .int x2), (3, .int x3)]) hx hb dX11_won_5 hl (by decide) rfl (fun ls hl => ?_)
    refine lv_aload hx hb dX11_won_7 (lv_at hl 0 rfl) ?_
    refine lv_ifnull hx hb dX11_won_9 ?_
    refine lv_iload_n hx hb dX11_won_12 rfl (lv_at hl 3 rfl) ?_
    refine zcS (zrS (As := [.int x2]) (rest := []) C hs hP hS (c_X11_isSide l D K hO vi va vg hI x2) m_X11_isSide wm_X11_221 ⟨by decide, by decide⟩ hl.1 (Nat.le_of_ble_eq_true rfl) dX11_won_13) (fun x_2 p_2 => ?_)
    have pp_2 : (x_2.toInt ≠ 0 → 0 ≤ x2.toInt ∧ x2.toInt ≤ 1) := p_2.2
    refine bz_ne (tgt := 22) hx hb rfl dX11_won_16 (by decide) (fun c_3 => ?_) (fun c_3 => ?_)
    · skip
      refine lv_iload_n hx hb dX11_won_22 rfl (lv_at hl 4 rfl) ?_
      rcases Classical.em (x3.toInt = 0) with c_4 | c_4
      · refine lv_tableIn (tgt := 48) hx hb dX11_won_23 (by omega) (by omega) (by rw [c_4]; rfl) (by decide) ?_
        refine lv_aload hx hb dX11_won_48 (lv_at hl 0 rfl) ?_
        refine zg_8_13 C hs hP ha_q_1 hk_q_1 wf_X11_135 dX11_won_50 ?_
        have hf_5 := hO.r (j := 13) ha_q_1 hk_q_1 (rfl : zX 8 13 = some (1, 0))
        refine zg_1_11 C hs hP hf_5.1 hf_5.2.1 wf_X11_224 dX11_won_53 ?_
        have hf_6 := hO.r (j := 11) hf_5.1 hf_5.2.1 (rfl : zX 1 11 = some (20, 2))
        refine lv_iload_n hx hb dX11_won_56 rfl (lv_at hl 3 rfl) ?_
        have g_8 := z_rng x2
        have hin_7 : vp_in x2 (zn K (zr K (zr K q_1 13) 11)) := vp_in_iff.mpr (by rw [(hf_6.2.2 (by decide))]; refine ⟨?_, ?_⟩ <;> omega)
        refine zld_20 C hs hP hf_6.1 hf_6.2.1 hin_7 dX11_won_57 ?_
        exact zaS hQ hx hb hr hlk trivial dX11_won_58
      · have d_9 := c_4
        rcases Classical.em (x3.toInt = 1) with c_10 | c_10
        · refine lv_tableIn (tgt := 59) hx hb dX11_won_23 (by omega) (by omega) (by rw [c_10]; rfl) (by decide) ?_
          refine lv_aload hx hb dX11_won_59 (lv_at hl 0 rfl) ?_
          refine zg_8_13 C hs hP ha_q_1 hk_q_1 wf_X11_135 dX11_won_61 ?_
          have hf_11 := hO.r (j := 13) ha_q_1 hk_q_1 (rfl : zX 8 13 = some (1, 0))
          refine zg_1_12 C hs hP hf_11.1 hf_11.2.1 wf_X11_227 dX11_won_64 ?_
          have hf_12 := hO.r (j := 12) hf_11.1 hf_11.2.1 (rfl : zX 1 12 = some (20, 2))
          refine lv_iload_n hx hb dX11_won_67 rfl (lv_at hl 3 rfl) ?_
          have g_14 := z_rng x2
          have hin_13 : vp_in x2 (zn K (zr K (zr K q_1 13) 12)) := vp_in_iff.mpr (by rw [(hf_12.2.2 (by decide))]; refine ⟨?_, ?_⟩ <;> omega)
          refine zld_20 C hs hP hf_12.1 hf_12.2.1 hin_13 dX11_won_68 ?_
          exact zaS hQ hx hb hr hlk trivial dX11_won_69
        · have d_15 := c_10
          rcases Classical.em (x3.toInt = 2) with c_16 | c_16
          · refine lv_tableIn (tgt := 70) hx hb dX11_won_23 (by omega) (by omega) (by rw [c_16]; rfl) (by decide) ?_
            refine lv_aload hx hb dX11_won_70 (lv_at hl 0 rfl) ?_
            refine lv_iload_n hx hb dX11_won_72 rfl (lv_at hl 3 rfl) ?_
            refine zcS (zrV (As := [.int x2]) (b := q_1) (rest := []) C hs hP hS (c_X9_cardsWon l D K hO vi va vg hI q_1 ha_q_1 hk_q_1 x2) m_X9_cardsWon wm_X11_230 (zrecv hs hP ha_q_1 (zF_8 hk_q_1) rfl) ⟨by decide, by decide⟩ hl.1 (Nat.le_of_ble_eq_true rfl) dX11_won_73) (fun x_17 p_17 => ?_)
            exact zaS hQ hx hb hr hlk trivial dX11_won_76
          · have d_18 := c_16
            refine lv_tableOut (tgt := 77) hx hb dX11_won_23 (by omega) (by decide) ?_
            refine lv_bipush (v := (-3)) hx hb dX11_won_77 (by decide) ?_
            exact zaS hQ hx hb hr hlk trivial dX11_won_79
    · skip
      refine lv_bipush (v := (-2)) hx hb dX11_won_19 (by decide) ?_
      exact zaS hQ hx hb hr hlk trivial dX11_won_21
set_option maxHeartbeats 4000000 in
set_option maxRecDepth 100000 in
theorem c_X11_revokes (l : Launch) (D : va_G) (K : zK) (hO : zOk K) (vi va : Nat → Nat → Int32) (vg : Nat → Nat → Option Nat) (hI : zI K (vi, va, vg)) (a0 : Nat) (ha0 : a0 ∈ zl K) (hk0 : zk K a0 = 10) (x1 : Int32) (x2 : Int32) (x3 : Int32) : Met l yX11_revokes (zc yX11_revokes cX11_revokes 5 (some .int)) (rmd 2) (va_Pc [.ref a0, .int x1, .int x2, .int x3] (zB D K (vi, va, vg))) (vp_Si (fun r => True)) 0 0 (fun _ => False) := by
  refine zin (by decide) (Nat.le_of_ble_eq_true rfl) ?_
  intro p e s m args below meth c ls Q hQ C hr hlk hP hs hl
  have C : CallFix p m c cX11_revokes 5 s args zw RX11 := C
  obtain ⟨hx, hb, hml, hown, hts⟩ := id C
  have hS : va_S (zA K) s.heap s.heap [] := va_S.rf
  have hl : lv_has ls 5 [(0, .ref a0), (1, .int x1), (2, .int x2), (3, .int x3)] := hl
  refine lv_aload_n hx hb dX11_revokes_0 rfl (lv_at hl 0 rfl) ?_
  refine lv_iload_n hx hb dX11_revokes_1 rfl (lv_at hl 1 rfl) ?_
  refine zcSq (zrV (As := [.int x1]) (b := a0) (rest := []) C hs hP hS (c_X11_tableAt l D K hO vi va vg hI a0 ha0 hk0 x1) m_X11_tableAt wm_X11_83 (zrecv hs hP ha0 (zF_10 hk0) rfl) ⟨by decide, by decide⟩ hl.1 (Nat.le_of_ble_eq_true rfl) dX11_revokes_2) (fun p_1 => ?_) (fun q_1 p_1 => ?_)
  · skip
    refine lv_astoreN (lv' := [(4, .null), (0, .ref a0), (1, .int x1), (2, .int x2), (3, .int x3)]) hx hb dX11_revokes_5 hl (by decide) rfl (fun ls hl => ?_)
    refine lv_aloadN hx hb dX11_revokes_7 (lv_at hl 0 rfl) ?_
    refine lv_ifnullN (tgt := 19) hx hb dX11_revokes_9 (by decide) ?_
    refine lv_bipush (v := (-2)) hx hb dX11_revokes_19 (by decide) ?_
    exact zaS hQ hx hb hr hlk trivial dX11_revokes_21
  · skip
    obtain ⟨ha_q_1, hk_q_1, hr_q_1⟩ := p_1 _ rfl
    refine lv_astore (lv' := [(4, .ref q_1), (0, .ref a0), (1, .int x1), (2, .int x2), (3, .int x3)]) hx hb dX11_revokes_5 hl (by decide) rfl (fun ls hl => ?_)
    refine lv_aload hx hb dX11_revokes_7 (lv_at hl 0 rfl) ?_
    refine lv_ifnull hx hb dX11_revokes_9 ?_
    refine lv_iload_n hx hb dX11_revokes_12 rfl (lv_at hl 3 rfl) ?_
    refine zcS (zrS (As := [.int x2]) (rest := []) C hs hP hS (c_X11_isSeat l D K hO vi va vg hI x2) m_X11_isSeat wm_X11_87 ⟨by decide, by decide⟩ hl.1 (Nat.le_of_ble_eq_true rfl) dX11_revokes_13) (fun x_2 p_2 => ?_)
    have pp_2 : (x_2.toInt ≠ 0 → 0 ≤ x2.toInt ∧ x2.toInt ≤ 3) := p_2.2
    refine bz_ne (tgt := 22) hx hb rfl dX11_revokes_16 (by decide) (fun c_3 => ?_) (fun c_3 => ?_)
    · skip
      refine lv_iload_n hx hb dX11_revokes_22 rfl (lv_at hl 4 rfl) ?_
      refine bz_lt (tgt := 31) hx hb rfl dX11_revokes_23 (by decide) (fun c_4 => ?_) (fun c_4 => ?_)
      · skip
        refine lv_bipush (v := (-3)) hx hb dX11_revokes_31 (by decide) ?_
        exact zaS hQ hx hb hr hlk trivial dX11_revokes_33
      · skip
        refine lv_iload_n hx hb dX11_revokes_26 rfl (lv_at hl 4 rfl) ?_
        refine lv_iconst (v := 1) hx hb dX11_revokes_27 (by decide) ?_
        refine bi_le (tgt := 34) hx hb rfl ti_1 dX11_revokes_28 (by decide) (fun c_5 => ?_) (fun c_5 => ?_)
        · skip
          refine lv_aload hx hb dX11_revokes_34 (lv_at hl 0 rfl) ?_
          refine zg_8_13 C hs hP ha_q_1 hk_q_1 wf_X11_135 dX11_revokes_36 ?_
          have hf_6 := hO.r (j := 13) ha_q_1 hk_q_1 (rfl : zX 8 13 = some (1, 0))
          refine lv_iload_n hx hb dX11_revokes_39 rfl (lv_at hl 3 rfl) ?_
          refine lv_iload_n hx hb dX11_revokes_40 rfl (lv_at hl 4 rfl) ?_
          refine lv_iconst (v := 1) hx hb dX11_revokes_41 (by decide) ?_
          refine bi_ne (tgt := 49) hx hb rfl ti_1 dX11_revokes_42 (by decide) (fun c_7 => ?_) (fun c_7 => ?_)
          · skip
            refine lv_iconst (v := 0) hx hb dX11_revokes_49 (by decide) ?_
            refine zcS (zrV (As := [.int x2, .int 0]) (b := zr K q_1 13) (rest := []) C hs hP hS (c_X1_revokesOf l D K hO vi va vg hI (zr K q_1 13) hf_6.1 hf_6.2.1 x2 0) m_X1_revokesOf wm_X11_233 (zrecv hs hP hf_6.1 (zF_1 hf_6.2.1) rfl) ⟨by decide, by decide⟩ hl.1 (Nat.le_of_ble_eq_true rfl) dX11_revokes_50) (fun x_8 p_8 => ?_)
            exact zaS hQ hx hb hr hlk trivial dX11_revokes_53
          · skip
            refine lv_iconst (v := 1) hx hb dX11_revokes_45 (by decide) ?_
            refine lv_goto (tgt := 50) hx hb dX11_revokes_46 (by decide) ?_
            refine zcS (zrV (As := [.int x2, .int 1]) (b := zr K q_1 13) (rest := []) C hs hP hS (c_X1_revokesOf l D K hO vi va vg hI (zr K q_1 13) hf_6.1 hf_6.2.1 x2 1) m_X1_revokesOf wm_X11_233 (zrecv hs hP hf_6.1 (zF_1 hf_6.2.1) rfl) ⟨by decide, by decide⟩ hl.1 (Nat.le_of_ble_eq_true rfl) dX11_revokes_50) (fun x_9 p_9 => ?_)
            exact zaS hQ hx hb hr hlk trivial dX11_revokes_53
        · skip
          refine lv_bipush (v := (-3)) hx hb dX11_revokes_31 (by decide) ?_
          exact zaS hQ hx hb hr hlk trivial dX11_revokes_33
    · skip
      refine lv_bipush (v := (-2)) hx hb dX11_revokes_19 (by decide) ?_
      exact zaS hQ hx hb hr hlk trivial dX11_revokes_21
set_option maxHeartbeats 4000000 in
set_option maxRecDepth 100000 in
theorem c_X11_finding (l : Launch) (D : va_G) (K : zK) (hO : zOk K) (vi va : Nat → Nat → Int32) (vg : Nat → Nat → Option Nat) (hI : zI K (vi, va, vg)) (a0 : Nat) (ha0 : a0 ∈ zl K) (hk0 : zk K a0 = 10) (x1 : Int32) (x2 : Int32) : Met l yX11_finding (zc yX11_finding cX11_finding 3 (some .int)) (rmd 2) (va_Pc [.ref a0, .int x1, .int x2] (zB D K (vi, va, vg))) (vp_Si (fun r => True)) 0 0 (fun _ => False) := by
  refine zin (by decide) (Nat.le_of_ble_eq_true rfl) ?_
  intro p e s m args below meth c ls Q hQ C hr hlk hP hs hl
  have C : CallFix p m c cX11_finding 3 s args zw RX11 := C
  obtain ⟨hx, hb, hml, hown, hts⟩ := id C
  have hS : va_S (zA K) s.heap s.heap [] := va_S.rf
  have hl : lv_has ls 3 [(0, .ref a0), (1, .int x1), (2, .int x2)] := hl
  refine lv_iload_n hx hb dX11_finding_0 rfl (lv_at hl 2 rfl) ?_
  refine bz_lt (tgt := 9) hx hb rfl dX11_finding_1 (by decide) (fun c_1 => ?_) (fun c_1 => ?_)
  · skip
    refine lv_bipush (v := (-3)) hx hb dX11_finding_9 (by decide) ?_
    exact zaS hQ hx hb hr hlk trivial dX11_finding_11
  · skip
    refine lv_iload_n hx hb dX11_finding_4 rfl (lv_at hl 2 rfl) ?_
    refine lv_iconst (v := 5) hx hb dX11_finding_5 (by decide) ?_
    refine bi_lt (tgt := 12) hx hb rfl ti_5 dX11_finding_6 (by decide) (fun c_2 => ?_) (fun c_2 => ?_)
    · skip
      refine lv_aload_n hx hb dX11_finding_12 rfl (lv_at hl 0 rfl) ?_
      refine zg_10_6 C hs hP ha0 hk0 wf_X11_43 dX11_finding_13 ?_
      have hf_3 := hO.r (j := 6) ha0 hk0 (rfl : zX 10 6 = some (5, 0))
      refine lv_iload_n hx hb dX11_finding_16 rfl (lv_at hl 1 rfl) ?_
      refine lv_iload_n hx hb dX11_finding_17 rfl (lv_at hl 2 rfl) ?_
      refine zcS (zrV (As := [.int x1, .int x2]) (b := zr K a0 6) (rest := []) C hs hP hS (c_X6_findingAt l D K hO vi va vg hI (zr K a0 6) hf_3.1 hf_3.2.1 x1 x2) m_X6_findingAt wm_X11_284 (zrecv hs hP hf_3.1 (zF_5 hf_3.2.1) rfl) ⟨by decide, by decide⟩ hl.1 (Nat.le_of_ble_eq_true rfl) dX11_finding_18) (fun x_4 p_4 => ?_)
      exact zaS hQ hx hb hr hlk trivial dX11_finding_21
    · skip
      refine lv_bipush (v := (-3)) hx hb dX11_finding_9 (by decide) ?_
      exact zaS hQ hx hb hr hlk trivial dX11_finding_11
set_option maxHeartbeats 4000000 in
set_option maxRecDepth 100000 in
theorem c_X11_status (l : Launch) (D : va_G) (K : zK) (hO : zOk K) (vi va : Nat → Nat → Int32) (vg : Nat → Nat → Option Nat) (hI : zI K (vi, va, vg)) (a0 : Nat) (ha0 : a0 ∈ zl K) (hk0 : zk K a0 = 10) (x1 : Int32) (x2 : Int32) : Met l yX11_status (zc yX11_status cX11_status 5 (some .int)) (rmd 1) (va_Pc [.ref a0, .int x1, .int x2] (zB D K (vi, va, vg))) (vp_Si (fun r => True)) 0 0 (fun _ => False) := by
  refine zin (by decide) (Nat.le_of_ble_eq_true rfl) ?_
  intro p e s m args below meth c ls Q hQ C hr hlk hP hs hl
  have C : CallFix p m c cX11_status 5 s args zw RX11 := C
  obtain ⟨hx, hb, hml, hown, hts⟩ := id C
  have hS : va_S (zA K) s.heap s.heap [] := va_S.rf
  have hl : lv_has ls 5 [(0, .ref a0), (1, .int x1), (2, .int x2)] := hl
  refine lv_aload_n hx hb dX11_status_0 rfl (lv_at hl 0 rfl) ?_
  refine lv_iload_n hx hb dX11_status_1 rfl (lv_at hl 1 rfl) ?_
  refine zcSq (zrV (As := [.int x1]) (b := a0) (rest := []) C hs hP hS (c_X11_tableAt l D K hO vi va vg hI a0 ha0 hk0 x1) m_X11_tableAt wm_X11_83 (zrecv hs hP ha0 (zF_10 hk0) rfl) ⟨by decide, by decide⟩ hl.1 (Nat.le_of_ble_eq_true rfl) dX11_status_2) (fun p_1 => ?_) (fun q_1 p_1 => ?_)
  · skip
    refine lv_astore_nN (lv' := [(3, .null), (0, .ref a0), (1, .int x1), (2, .int x2)]) hx hb dX11_status_5 rfl hl (by decide) rfl (fun ls hl => ?_)
    refine lv_aload_nN hx hb dX11_status_6 rfl (lv_at hl 0 rfl) ?_
    refine lv_ifnonnullN hx hb dX11_status_7 ?_
    refine lv_bipush (v := (-2)) hx hb dX11_status_10 (by decide) ?_
    exact zaS hQ hx hb hr hlk trivial dX11_status_12
  · skip
    obtain ⟨ha_q_1, hk_q_1, hr_q_1⟩ := p_1 _ rfl
    refine lv_astore_n (lv' := [(3, .ref q_1), (0, .ref a0), (1, .int x1), (2, .int x2)]) hx hb dX11_status_5 rfl hl (by decide) rfl (fun ls hl => ?_)
    refine lv_aload_n hx hb dX11_status_6 rfl (lv_at hl 0 rfl) ?_
    refine lv_ifnonnull (tgt := 13) hx hb dX11_status_7 (by decide) ?_
    refine lv_aload_n hx hb dX11_status_13 rfl (lv_at hl 0 rfl) ?_
    refine zg_8_13 C hs hP ha_q_1 hk_q_1 wf_X11_135 dX11_status_14 ?_
    have hf_2 := hO.r (j := 13) ha_q_1 hk_q_1 (rfl : zX 8 13 = some (1, 0))
    refine lv_astore (lv' := [(4, .ref (zr K q_1 13)), (3, .ref q_1), (0, .ref a0), (1, .int x1), (2, .int x2)]) hx hb dX11_status_17 hl (by decide) rfl (fun ls hl => ?_)
    refine lv_iload_n hx hb dX11_status_19 rfl (lv_at hl 4 rfl) ?_
    rcases Classical.em (x2.toInt = 0) with c_3 | c_3
    · refine lv_tableIn (tgt := 72) hx hb dX11_status_20 (by omega) (by omega) (by rw [c_3]; rfl) (by decide) ?_
      refine lv_aload hx hb dX11_status_72 (lv_at hl 0 rfl) ?_
      refine zg_1_0 C hs hP hf_2.1 hf_2.2.1 wf_X11_264 dX11_status_74 ?_
      exact zaS hQ hx hb hr hlk trivial dX11_status_77
    · have d_4 := c_3
      rcases Classical.em (x2.toInt = 1) with c_5 | c_5
      · refine lv_tableIn (tgt := 78) hx hb dX11_status_20 (by omega) (by omega) (by rw [c_5]; rfl) (by decide) ?_
        refine lv_aload hx hb dX11_status_78 (lv_at hl 0 rfl) ?_
        refine zg_1_1 C hs hP hf_2.1 hf_2.2.1 wf_X11_155 dX11_status_80 ?_
        exact zaS hQ hx hb hr hlk trivial dX11_status_83
      · have d_6 := c_5
        rcases Classical.em (x2.toInt = 2) with c_7 | c_7
        · refine lv_tableIn (tgt := 84) hx hb dX11_status_20 (by omega) (by omega) (by rw [c_7]; rfl) (by decide) ?_
          refine lv_aload_n hx hb dX11_status_84 rfl (lv_at hl 1 rfl) ?_
          refine zg_8_4 C hs hP ha_q_1 hk_q_1 wf_X11_116 dX11_status_85 ?_
          exact zaS hQ hx hb hr hlk trivial dX11_status_88
        · have d_8 := c_7
          rcases Classical.em (x2.toInt = 3) with c_9 | c_9
          · refine lv_tableIn (tgt := 89) hx hb dX11_status_20 (by omega) (by omega) (by rw [c_9]; rfl) (by decide) ?_
            refine lv_aload hx hb dX11_status_89 (lv_at hl 0 rfl) ?_
            refine zg_1_11 C hs hP hf_2.1 hf_2.2.1 wf_X11_224 dX11_status_91 ?_
            have hf_10 := hO.r (j := 11) hf_2.1 hf_2.2.1 (rfl : zX 1 11 = some (20, 2))
            refine lv_iconst (v := 0) hx hb dX11_status_94 (by decide) ?_
            have hin_11 : vp_in 0 (zn K (zr K (zr K q_1 13) 11)) := vp_in_iff.mpr (by rw [ti_0, (hf_10.2.2 (by decide))]; decide)
            refine zld_20 C hs hP hf_10.1 hf_10.2.1 hin_11 dX11_status_95 ?_
            refine lv_aload hx hb dX11_status_96 (lv_at hl 0 rfl) ?_
            refine zg_1_11 C hs hP hf_2.1 hf_2.2.1 wf_X11_224 dX11_status_98 ?_
            refine lv_iconst (v := 1) hx hb dX11_status_101 (by decide) ?_
            have hin_12 : vp_in 1 (zn K (zr K (zr K q_1 13) 11)) := vp_in_iff.mpr (by rw [ti_1, (hf_10.2.2 (by decide))]; decide)
            refine zld_20 C hs hP hf_10.1 hf_10.2.1 hin_12 dX11_status_102 ?_
            refine lv_iadd hx hb dX11_status_103 ?_
            refine lv_topi (fun x_13 ex_13 => ?_)
            exact zaS hQ hx hb hr hlk trivial dX11_status_104
          · have d_14 := c_9
            rcases Classical.em (x2.toInt = 4) with c_15 | c_15
            · refine lv_tableIn (tgt := 105) hx hb dX11_status_20 (by omega) (by omega) (by rw [c_15]; rfl) (by decide) ?_
              refine lv_aload hx hb dX11_status_105 (lv_at hl 0 rfl) ?_
              refine zg_1_4 C hs hP hf_2.1 hf_2.2.1 wf_X11_306 dX11_status_107 ?_
              exact zaS hQ hx hb hr hlk trivial dX11_status_110
            · have d_16 := c_15
              rcases Classical.em (x2.toInt = 5) with c_17 | c_17
              · refine lv_tableIn (tgt := 111) hx hb dX11_status_20 (by omega) (by omega) (by rw [c_17]; rfl) (by decide) ?_
                refine lv_aload hx hb dX11_status_111 (lv_at hl 0 rfl) ?_
                refine zg_1_5 C hs hP hf_2.1 hf_2.2.1 wf_X11_309 dX11_status_113 ?_
                exact zaS hQ hx hb hr hlk trivial dX11_status_116
              · have d_18 := c_17
                rcases Classical.em (x2.toInt = 6) with c_19 | c_19
                · refine lv_tableIn (tgt := 117) hx hb dX11_status_20 (by omega) (by omega) (by rw [c_19]; rfl) (by decide) ?_
                  refine lv_aload hx hb dX11_status_117 (lv_at hl 0 rfl) ?_
                  refine zg_1_6 C hs hP hf_2.1 hf_2.2.1 wf_X11_312 dX11_status_119 ?_
                  exact zaS hQ hx hb hr hlk trivial dX11_status_122
                · have d_20 := c_19
                  rcases Classical.em (x2.toInt = 7) with c_21 | c_21
                  · refine lv_tableIn (tgt := 123) hx hb dX11_status_20 (by omega) (by omega) (by rw [c_21]; rfl) (by decide) ?_
                    refine lv_aload hx hb dX11_status_123 (lv_at hl 0 rfl) ?_
                    refine zg_1_7 C hs hP hf_2.1 hf_2.2.1 wf_X11_187 dX11_status_125 ?_
                    exact zaS hQ hx hb hr hlk trivial dX11_status_128
                  · have d_22 := c_21
                    rcases Classical.em (x2.toInt = 8) with c_23 | c_23
                    · refine lv_tableIn (tgt := 129) hx hb dX11_status_20 (by omega) (by omega) (by rw [c_23]; rfl) (by decide) ?_
                      refine lv_aload_n hx hb dX11_status_129 rfl (lv_at hl 2 rfl) ?_
                      refine zg_10_4 C hs hP ha0 hk0 wf_X11_31 dX11_status_130 ?_
                      have hf_24 := hO.r (j := 4) ha0 hk0 (rfl : zX 10 4 = some (20, 4))
                      refine lv_iload_n hx hb dX11_status_133 rfl (lv_at hl 3 rfl) ?_
                      have g_26 := z_rng x1
                      have hin_25 : vp_in x1 (zn K (zr K a0 4)) := vp_in_iff.mpr (by rw [(hf_24.2.2 (by decide))]; refine ⟨?_, ?_⟩ <;> omega)
                      refine zld_20 C hs hP hf_24.1 hf_24.2.1 hin_25 dX11_status_134 ?_
                      exact zaS hQ hx hb hr hlk trivial dX11_status_135
                    · have d_27 := c_23
                      refine lv_tableOut (tgt := 136) hx hb dX11_status_20 (by omega) (by decide) ?_
                      refine lv_bipush (v := (-3)) hx hb dX11_status_136 (by decide) ?_
                      exact zaS hQ hx hb hr hlk trivial dX11_status_138
set_option maxHeartbeats 4000000 in
set_option maxRecDepth 100000 in
theorem c_X11_forget (l : Launch) (D : va_G) (K : zK) (hO : zOk K) (vi va : Nat → Nat → Int32) (vg : Nat → Nat → Option Nat) (hI : zI K (vi, va, vg)) (a0 : Nat) (ha0 : a0 ∈ zl K) (hk0 : zk K a0 = 10) : Met l yX11_forget (zc yX11_forget cX11_forget 2 (some .int)) (rmd 0) (va_Pc [.ref a0] (zB D K (vi, va, vg))) (zQi D K (fun r V' => zI K V' ∧ V'.2.2 = vg)) 0 0 (zA K) := by
  refine zin (by decide) (Nat.le_of_ble_eq_true rfl) ?_
  intro p e s m args below meth c ls Q hQ C hr hlk hP hs hl
  have C : CallFix p m c cX11_forget 2 s args zw RX11 := C
  obtain ⟨hx, hb, hml, hown, hts⟩ := id C
  have hS : va_S (zA K) s.heap s.heap [] := va_S.rf
  have hl : lv_has ls 2 [(0, .ref a0)] := hl
  refine lv_aload_n hx hb dX11_forget_0 rfl (lv_at hl 0 rfl) ?_
  refine zg_10_6 C hs hP ha0 hk0 wf_X11_43 dX11_forget_1 ?_
  have hf_1 := hO.r (j := 6) ha0 hk0 (rfl : zX 10 6 = some (5, 0))
  refine zg_5_3 C hs hP hf_1.1 hf_1.2.1 wf_X11_290 dX11_forget_4 ?_
  refine lv_istore_n (lv' := [(1, .int (vi (zr K a0 6) 3)), (0, .ref a0)]) hx hb dX11_forget_7 rfl hl (by decide) rfl (fun ls hl => ?_)
  refine lv_aload_n hx hb dX11_forget_8 rfl (lv_at hl 1 rfl) ?_
  refine zg_10_6 C hs hP ha0 hk0 wf_X11_43 dX11_forget_9 ?_
  refine lv_iconst (v := 0) hx hb dX11_forget_12 (by decide) ?_
  refine kp_5_3 C hO hs hP hS hf_1.1 hf_1.2.1 wf_X11_290 hI dX11_forget_13 (fun vi_2 H locs hI hP hS => ?_)
  refine lv_iload_n hx hb dX11_forget_16 rfl (lv_at hl 0 rfl) ?_
  exact zaI hQ hx hb hr hlk hP hS ⟨hI, rfl⟩ dX11_forget_17
