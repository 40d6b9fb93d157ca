set_option maxHeartbeats 4000000 in
set_option maxRecDepth 100000 in
theorem c_X9_sizeBy (l : Launch) (D : va_G) (K : zK) (hO : zOk K) (vi va : Nat → Nat → Int32) (vg : Nat → Nat → Option Nat) (hI : zI K (vi, va, vg)) (a0 : Nat) (ha0 : a0 ∈ zl K) (hk0 : zk K a0 = 8) (a1 : Nat) (ha1 : a1 ∈ zl K) (hk1 : zk K a1 = 5) : Met l yX9_sizeBy (zc yX9_sizeBy cX9_sizeBy 2 (some .int)) (rmd 2) (va_Pc [.ref a0, .ref a1] (zB D K (vi, va, vg))) (zQi D K (fun r V' => zI K V' ∧ V'.2.2 = vg)) 0 0 (zA K) := by
  refine zin (by decide) (Nat.le_of_ble_eq_true rfl) ?_
  intro p e s m args below meth c ls Q hQ C hr hlk hP hs hl
  have C : CallFix p m c cX9_sizeBy 2 s args zw RX9 := C
  obtain ⟨hx, hb, hml, hown, hts⟩ := id C
  have hS : va_S (zA K) s.heap s.heap [] := va_S.rf
  have hl : lv_has ls 2 [(0, .ref a0), (1, .ref a1)] := hl
  refine lv_aload_n hx hb dX9_sizeBy_0 rfl (lv_at hl 0 rfl) ?_
  rcases hg_1 : vg a0 1 with _ | q_1
  · refine zgn_8_1 C hs hP ha0 hk0 wf_X9_64 hg_1 dX9_sizeBy_1 ?_
    refine lv_ifnonnullN hx hb dX9_sizeBy_4 ?_
    refine lv_iconst (v := 0) hx hb dX9_sizeBy_7 (by decide) ?_
    refine lv_goto (tgt := 23) hx hb dX9_sizeBy_8 (by decide) ?_
    exact zaI hQ hx hb hr hlk hP hS ⟨hI, rfl⟩ dX9_sizeBy_23
  · have hq_1 := hI.2.2.2.1 _ ha0 hk0 _ hg_1
    refine zgs_8_1 C hs hP ha0 hk0 wf_X9_64 hg_1 dX9_sizeBy_1 ?_
    refine lv_ifnonnull (tgt := 11) hx hb dX9_sizeBy_4 (by decide) ?_
    refine lv_aload_n hx hb dX9_sizeBy_11 rfl (lv_at hl 0 rfl) ?_
    refine zgs_8_1 C hs hP ha0 hk0 wf_X9_64 hg_1 dX9_sizeBy_12 ?_
    refine lv_aload_n hx hb dX9_sizeBy_15 rfl (lv_at hl 1 rfl) ?_
    refine lv_aload_n hx hb dX9_sizeBy_16 rfl (lv_at hl 0 rfl) ?_
    refine zg_8_2 C hs hP ha0 hk0 wf_X9_61 dX9_sizeBy_17 ?_
    have run_2 : va_Run p l e (rmd 2) s m args below meth c s.heap [] 0 0 0 0 (F0 m 20 ls [.int (vi a0 2), .ref a1, .ref q_1]) [] ((zQi D K (fun r V' => zI K V' ∧ V'.2.2 = vg)) ([.ref q_1, .ref a1, .int (vi a0 2)] : List Value).toArray) (zA K) := by
      rcases hq_1.2 with (h9 | h9 | h9 | h9) | h9
      · exact zrUA (Cn := RX0) (As := [.ref a1, .int (vi a0 2)]) (b := q_1) (rest := []) C hs hP hS (c_X3_size l D K hO vi va vg hI q_1 hq_1.1 (Or.inl h9) a1 ha1 hk1 (vi a0 2)) m0_X3_size wi_X3_size wm_X9_104 wq_X4_X4_size we_X0_X4_size (List.mem_of_getElem? (l := nw_D) (i := 0) rfl) ⟨by decide, by decide⟩ rfl (zrecv hs hP hq_1.1 (zF_0 h9) rfl) ⟨by decide, by decide⟩ hl.1 (Nat.le_of_ble_eq_true rfl) dX9_sizeBy_20
      · exact zrUA (Cn := RX3) (As := [.ref a1, .int (vi a0 2)]) (b := q_1) (rest := []) C hs hP hS (c_X3_size l D K hO vi va vg hI q_1 hq_1.1 (Or.inr (Or.inl h9)) a1 ha1 hk1 (vi a0 2)) m0_X3_size wi_X3_size wm_X9_104 wq_X4_X4_size we_X3_X4_size (List.mem_of_getElem? (l := nw_D) (i := 0) rfl) ⟨by decide, by decide⟩ rfl (zrecv hs hP hq_1.1 (zF_3 h9) rfl) ⟨by decide, by decide⟩ hl.1 (Nat.le_of_ble_eq_true rfl) dX9_sizeBy_20
      · exact zrUA (Cn := RX5) (As := [.ref a1, .int (vi a0 2)]) (b := q_1) (rest := []) C hs hP hS (c_X3_size l D K hO vi va vg hI q_1 hq_1.1 (Or.inr (Or.inr (Or.inl h9))) a1 ha1 hk1 (vi a0 2)) m0_X3_size wi_X3_size wm_X9_104 wq_X4_X4_size we_X5_X4_size (List.mem_of_getElem? (l := nw_D) (i := 0) rfl) ⟨by decide, by decide⟩ rfl (zrecv hs hP hq_1.1 (zF_4 h9) rfl) ⟨by decide, by decide⟩ hl.1 (Nat.le_of_ble_eq_true rfl) dX9_sizeBy_20
      · exact zrUA (Cn := RX10) (As := [.ref a1, .int (vi a0 2)]) (b := q_1) (rest := []) C hs hP hS (c_X3_size l D K hO vi va vg hI q_1 hq_1.1 (Or.inr (Or.inr (Or.inr h9))) a1 ha1 hk1 (vi a0 2)) m0_X3_size wi_X3_size wm_X9_104 wq_X4_X4_size we_X10_X4_size (List.mem_of_getElem? (l := nw_D) (i := 0) rfl) ⟨by decide, by decide⟩ rfl (zrecv hs hP hq_1.1 (zF_9 h9) rfl) ⟨by decide, by decide⟩ hl.1 (Nat.le_of_ble_eq_true rfl) dX9_sizeBy_20
      · exact zrUA (Cn := RX7) (As := [.ref a1, .int (vi a0 2)]) (b := q_1) (rest := []) C hs hP hS (c_X7_size l D K hO vi va vg hI q_1 hq_1.1 h9 a1 ha1 hk1 (vi a0 2)) m0_X7_size wi_X7_size wm_X9_104 wq_X4_X4_size we_X7_X4_size (List.mem_of_getElem? (l := nw_D) (i := 0) rfl) ⟨by decide, by decide⟩ rfl (zrecv hs hP hq_1.1 (zF_6 h9) rfl) ⟨by decide, by decide⟩ hl.1 (Nat.le_of_ble_eq_true rfl) dX9_sizeBy_20
    refine zcI run_2 hS (fun x_3 V_3 H locs p_3 hP hS => ?_)
    obtain ⟨vi_3, va_3, vg_3⟩ := V_3
    obtain ⟨hI, hg_3⟩ := p_3
    try dsimp only at hI hg_3
    replace hg_3 := hg_3.symm
    subst hg_3
    exact zaI hQ hx hb hr hlk hP hS ⟨hI, rfl⟩ dX9_sizeBy_23
set_option maxHeartbeats 4000000 in
set_option maxRecDepth 100000 in
theorem c_X9_refusalToGive (l : Launch) (D : va_G) (K : zK) (hO : zOk K) (vi va : Nat → Nat → Int32) (vg : Nat → Nat → Option Nat) (hI : zI K (vi, va, vg)) (a0 : Nat) (ha0 : a0 ∈ zl K) (hk0 : zk K a0 = 8) (a1 : Nat) (ha1 : a1 ∈ zl K) (hk1 : zk K a1 = 5) (x2 : Int32) (x3 : Int32) : Met l yX9_refusalToGive (zc yX9_refusalToGive cX9_refusalToGive 5 (some .int)) (rmd 3) (va_Pc [.ref a0, .ref a1, .int x2, .int x3] (zB D K (vi, va, vg))) (zQi D K (fun r V' => zI K V' ∧ V'.2.2 = vg)) 0 0 (zA K) := by
  refine zin (by decide) (Nat.le_of_ble_eq_true rfl) ?_
  intro p e s m args below meth c ls Q hQ C hr hlk hP hs hl
  have C : CallFix p m c cX9_refusalToGive 5 s args zw RX9 := C
  obtain ⟨hx, hb, hml, hown, hts⟩ := id C
  have hS : va_S (zA K) s.heap s.heap [] := va_S.rf
  have hl : lv_has ls 5 [(0, .ref a0), (1, .ref a1), (2, .int x2), (3, .int x3)] := hl
  refine lv_aload_n hx hb dX9_refusalToGive_0 rfl (lv_at hl 0 rfl) ?_
  refine lv_iload_n hx hb dX9_refusalToGive_1 rfl (lv_at hl 2 rfl) ?_
  refine zcSq (zrV (As := [.int x2]) (b := a0) (rest := []) C hs hP hS (c_X9_handOf l D K hO vi va vg hI a0 ha0 hk0 x2) m_X9_handOf wm_X9_119 (zrecv hs hP ha0 (zF_8 hk0) rfl) ⟨by decide, by decide⟩ hl.1 (Nat.le_of_ble_eq_true rfl) dX9_refusalToGive_2) (fun p_1 => ?_) (fun q_1 p_1 => ?_)
  · skip
    obtain ⟨q9, h9, -⟩ := p_1; cases h9
  · skip
    obtain ⟨q9, h9, h8, h7⟩ := p_1
    cases h9
    have h8_q_1 := h8; have h7_q_1 := h7; clear h8 h7
    refine zg_7_1 C hs hP h8_q_1 h7_q_1 wf_X9_110 dX9_refusalToGive_5 ?_
    refine lv_aload_n hx hb dX9_refusalToGive_8 rfl (lv_at hl 0 rfl) ?_
    refine lv_aload_n hx hb dX9_refusalToGive_9 rfl (lv_at hl 1 rfl) ?_
    refine zcI (zrV (As := [.ref a1]) (b := a0) (rest := [.int (vi q_1 1)]) C hs hP hS (c_X9_sizeBy l D K hO vi va vg hI a0 ha0 hk0 a1 ha1 hk1) m_X9_sizeBy wm_X9_165 (zrecv hs hP ha0 (zF_8 hk0) rfl) ⟨by decide, by decide⟩ hl.1 (Nat.le_of_ble_eq_true rfl) dX9_refusalToGive_10) hS (fun x_2 V_2 H locs p_2 hP hS => ?_)
    obtain ⟨vi_2, va_2, vg_2⟩ := V_2
    obtain ⟨hI, hg_2⟩ := p_2
    try dsimp only at hI hg_2
    replace hg_2 := hg_2.symm
    subst hg_2
    refine bi_lt (tgt := 19) hx hb rfl rfl dX9_refusalToGive_13 (by decide) (fun c_3 => ?_) (fun c_3 => ?_)
    · skip
      refine lv_aload_n hx hb dX9_refusalToGive_19 rfl (lv_at hl 0 rfl) ?_
      refine zcS (zrV (As := []) (b := a0) (rest := []) C hs hP hS (c_X9_isOn l D K hO vi_2 va_2 vg hI a0 ha0 hk0) m_X9_isOn wm_X9_169 (zrecv hs hP ha0 (zF_8 hk0) rfl) ⟨by decide, by decide⟩ hl.1 (Nat.le_of_ble_eq_true rfl) dX9_refusalToGive_20) (fun x_4 p_4 => ?_)
      refine bz_eq (tgt := 58) hx hb rfl dX9_refusalToGive_23 (by decide) (fun c_5 => ?_) (fun c_5 => ?_)
      · skip
        refine lv_iconst (v := 1) hx hb dX9_refusalToGive_58 (by decide) ?_
        refine lv_goto (tgt := 63) hx hb dX9_refusalToGive_59 (by decide) ?_
        refine lv_istore (lv' := [(4, .int 1), (0, .ref a0), (1, .ref a1), (2, .int x2), (3, .int x3)]) hx hb dX9_refusalToGive_63 hl (by decide) rfl (fun ls hl => ?_)
        refine lv_iload hx hb dX9_refusalToGive_65 (lv_at hl 0 rfl) ?_
        refine bz_eq (tgt := 75) hx hb ti_1 dX9_refusalToGive_67 (by decide) (fun c_6 => ?_) (fun c_6 => ?_)
        · exact absurd c_6 (by decide)
        · clear c_6
          refine lv_bipush (v := (-4)) hx hb dX9_refusalToGive_70 (by decide) ?_
          refine lv_goto (tgt := 76) hx hb dX9_refusalToGive_72 (by decide) ?_
          exact zaI hQ hx hb hr hlk hP hS ⟨hI, rfl⟩ dX9_refusalToGive_76
      · skip
        refine lv_aload_n hx hb dX9_refusalToGive_26 rfl (lv_at hl 0 rfl) ?_
        refine zcS (zrV (As := []) (b := a0) (rest := []) C hs hP hS (c_X9_isBegun l D K hO vi_2 va_2 vg hI a0 ha0 hk0) m_X9_isBegun wm_X9_173 (zrecv hs hP ha0 (zF_8 hk0) rfl) ⟨by decide, by decide⟩ hl.1 (Nat.le_of_ble_eq_true rfl) dX9_refusalToGive_27) (fun x_7 p_7 => ?_)
        refine bz_ne (tgt := 58) hx hb rfl dX9_refusalToGive_30 (by decide) (fun c_8 => ?_) (fun c_8 => ?_)
        · skip
          refine lv_iconst (v := 1) hx hb dX9_refusalToGive_58 (by decide) ?_
          refine lv_goto (tgt := 63) hx hb dX9_refusalToGive_59 (by decide) ?_
          refine lv_istore (lv' := [(4, .int 1), (0, .ref a0), (1, .ref a1), (2, .int x2), (3, .int x3)]) hx hb dX9_refusalToGive_63 hl (by decide) rfl (fun ls hl => ?_)
          refine lv_iload hx hb dX9_refusalToGive_65 (lv_at hl 0 rfl) ?_
          refine bz_eq (tgt := 75) hx hb ti_1 dX9_refusalToGive_67 (by decide) (fun c_9 => ?_) (fun c_9 => ?_)
          · exact absurd c_9 (by decide)
          · clear c_9
            refine lv_bipush (v := (-4)) hx hb dX9_refusalToGive_70 (by decide) ?_
            refine lv_goto (tgt := 76) hx hb dX9_refusalToGive_72 (by decide) ?_
            exact zaI hQ hx hb hr hlk hP hS ⟨hI, rfl⟩ dX9_refusalToGive_76
        · skip
          refine lv_aload_n hx hb dX9_refusalToGive_33 rfl (lv_at hl 0 rfl) ?_
          refine lv_iload_n hx hb dX9_refusalToGive_34 rfl (lv_at hl 2 rfl) ?_
          refine zcS (zrV (As := [.int x2]) (b := a0) (rest := []) C hs hP hS (c_X9_isTaken l D K hO vi_2 va_2 vg hI a0 ha0 hk0 x2) m_X9_isTaken wm_X9_150 (zrecv hs hP ha0 (zF_8 hk0) rfl) ⟨by decide, by decide⟩ hl.1 (Nat.le_of_ble_eq_true rfl) dX9_refusalToGive_35) (fun x_10 p_10 => ?_)
          refine bz_eq (tgt := 58) hx hb rfl dX9_refusalToGive_38 (by decide) (fun c_11 => ?_) (fun c_11 => ?_)
          · skip
            refine lv_iconst (v := 1) hx hb dX9_refusalToGive_58 (by decide) ?_
            refine lv_goto (tgt := 63) hx hb dX9_refusalToGive_59 (by decide) ?_
            refine lv_istore (lv' := [(4, .int 1), (0, .ref a0), (1, .ref a1), (2, .int x2), (3, .int x3)]) hx hb dX9_refusalToGive_63 hl (by decide) rfl (fun ls hl => ?_)
            refine lv_iload hx hb dX9_refusalToGive_65 (lv_at hl 0 rfl) ?_
            refine bz_eq (tgt := 75) hx hb ti_1 dX9_refusalToGive_67 (by decide) (fun c_12 => ?_) (fun c_12 => ?_)
            · exact absurd c_12 (by decide)
            · clear c_12
              refine lv_bipush (v := (-4)) hx hb dX9_refusalToGive_70 (by decide) ?_
              refine lv_goto (tgt := 76) hx hb dX9_refusalToGive_72 (by decide) ?_
              exact zaI hQ hx hb hr hlk hP hS ⟨hI, rfl⟩ dX9_refusalToGive_76
          · skip
            refine lv_aload_n hx hb dX9_refusalToGive_41 rfl (lv_at hl 0 rfl) ?_
            refine lv_iload_n hx hb dX9_refusalToGive_42 rfl (lv_at hl 3 rfl) ?_
            refine zcS (zrV (As := [.int x3]) (b := a0) (rest := []) C hs hP hS (c_X9_hasCard l D K hO vi_2 va_2 vg hI a0 ha0 hk0 x3) m_X9_hasCard wm_X9_176 (zrecv hs hP ha0 (zF_8 hk0) rfl) ⟨by decide, by decide⟩ hl.1 (Nat.le_of_ble_eq_true rfl) dX9_refusalToGive_43) (fun x_13 p_13 => ?_)
            have pp_13 : (x_13.toInt ≠ 0 → 0 ≤ x3.toInt ∧ x3.toInt ≤ 59) := p_13.2
            refine bz_eq (tgt := 58) hx hb rfl dX9_refusalToGive_46 (by decide) (fun c_14 => ?_) (fun c_14 => ?_)
            · skip
              refine lv_iconst (v := 1) hx hb dX9_refusalToGive_58 (by decide) ?_
              refine lv_goto (tgt := 63) hx hb dX9_refusalToGive_59 (by decide) ?_
              refine lv_istore (lv' := [(4, .int 1), (0, .ref a0), (1, .ref a1), (2, .int x2), (3, .int x3)]) hx hb dX9_refusalToGive_63 hl (by decide) rfl (fun ls hl => ?_)
              refine lv_iload hx hb dX9_refusalToGive_65 (lv_at hl 0 rfl) ?_
              refine bz_eq (tgt := 75) hx hb ti_1 dX9_refusalToGive_67 (by decide) (fun c_15 => ?_) (fun c_15 => ?_)
              · exact absurd c_15 (by decide)
              · clear c_15
                refine lv_bipush (v := (-4)) hx hb dX9_refusalToGive_70 (by decide) ?_
                refine lv_goto (tgt := 76) hx hb dX9_refusalToGive_72 (by decide) ?_
                exact zaI hQ hx hb hr hlk hP hS ⟨hI, rfl⟩ dX9_refusalToGive_76
            · skip
              refine lv_aload_n hx hb dX9_refusalToGive_49 rfl (lv_at hl 0 rfl) ?_
              refine zg_8_6 C hs hP ha0 hk0 wf_X9_15 dX9_refusalToGive_50 ?_
              have hf_16 := hO.r (j := 6) ha0 hk0 (rfl : zX 8 6 = some (20, 60))
              refine lv_iload_n hx hb dX9_refusalToGive_53 rfl (lv_at hl 3 rfl) ?_
              have g_18 := z_rng x3
              have hin_17 : vp_in x3 (zn K (zr K a0 6)) := vp_in_iff.mpr (by rw [(hf_16.2.2 (by decide))]; refine ⟨?_, ?_⟩ <;> omega)
              refine zld_20 C hs hP hf_16.1 hf_16.2.1 hin_17 dX9_refusalToGive_54 ?_
              refine bz_eq (tgt := 62) hx hb rfl dX9_refusalToGive_55 (by decide) (fun c_19 => ?_) (fun c_19 => ?_)
              · skip
                refine lv_iconst (v := 0) hx hb dX9_refusalToGive_62 (by decide) ?_
                refine lv_istore (lv' := [(4, .int 0), (0, .ref a0), (1, .ref a1), (2, .int x2), (3, .int x3)]) hx hb dX9_refusalToGive_63 hl (by decide) rfl (fun ls hl => ?_)
                refine lv_iload hx hb dX9_refusalToGive_65 (lv_at hl 0 rfl) ?_
                refine bz_eq (tgt := 75) hx hb ti_0 dX9_refusalToGive_67 (by decide) (fun c_20 => ?_) (fun c_20 => ?_)
                · clear c_20
                  refine lv_iconst (v := 0) hx hb dX9_refusalToGive_75 (by decide) ?_
                  exact zaI hQ hx hb hr hlk hP hS ⟨hI, rfl⟩ dX9_refusalToGive_76
                · exact absurd c_20 (by decide)
              · skip
                refine lv_iconst (v := 1) hx hb dX9_refusalToGive_58 (by decide) ?_
                refine lv_goto (tgt := 63) hx hb dX9_refusalToGive_59 (by decide) ?_
                refine lv_istore (lv' := [(4, .int 1), (0, .ref a0), (1, .ref a1), (2, .int x2), (3, .int x3)]) hx hb dX9_refusalToGive_63 hl (by decide) rfl (fun ls hl => ?_)
                refine lv_iload hx hb dX9_refusalToGive_65 (lv_at hl 0 rfl) ?_
                refine bz_eq (tgt := 75) hx hb ti_1 dX9_refusalToGive_67 (by decide) (fun c_21 => ?_) (fun c_21 => ?_)
                · exact absurd c_21 (by decide)
                · clear c_21
                  refine lv_bipush (v := (-4)) hx hb dX9_refusalToGive_70 (by decide) ?_
                  refine lv_goto (tgt := 76) hx hb dX9_refusalToGive_72 (by decide) ?_
                  exact zaI hQ hx hb hr hlk hP hS ⟨hI, rfl⟩ dX9_refusalToGive_76
    · skip
      refine lv_bipush (v := (-3)) hx hb dX9_refusalToGive_16 (by decide) ?_
      exact zaI hQ hx hb hr hlk hP hS ⟨hI, rfl⟩ dX9_refusalToGive_18
set_option maxHeartbeats 4000000 in
set_option maxRecDepth 100000 in
theorem c_X9_refusalToBid (l : Launch) (D : va_G) (K : zK) (hO : zOk K) (vi va : Nat → Nat → Int32) (vg : Nat → Nat → Option Nat) (hI : zI K (vi, va, vg)) (a0 : Nat) (ha0 : a0 ∈ zl K) (hk0 : zk K a0 = 8) (a1 : Nat) (ha1 : a1 ∈ zl K) (hk1 : zk K a1 = 5) (x2 : Int32) (x3 : Int32) (x4 : Int32) : Met l yX9_refusalToBid (zc yX9_refusalToBid cX9_refusalToBid 7 (some .int)) (rmd 3) (va_Pc [.ref a0, .ref a1, .int x2, .int x3, .int x4] (zB D K (vi, va, vg))) (zQi D K (fun r V' => zI K V' ∧ V'.2.2 = vg)) 0 0 (zA K) := by
  refine zin (by decide) (Nat.le_of_ble_eq_true rfl) ?_
  intro p e s m args below meth c ls Q hQ C hr hlk hP hs hl
  have C : CallFix p m c cX9_refusalToBid 7 s args zw RX9 := C
  obtain ⟨hx, hb, hml, hown, hts⟩ := id C
  have hS : va_S (zA K) s.heap s.heap [] := va_S.rf
  have hl : lv_has ls 7 [(0, .ref a0), (1, .ref a1), (2, .int x2), (3, .int x3), (4, .int x4)] := hl
  refine lv_iload_n hx hb dX9_refusalToBid_0 rfl (lv_at hl 3 rfl) ?_
  refine lv_iconst (v := 1) hx hb dX9_refusalToBid_1 (by decide) ?_
  refine bi_lt (tgt := 25) hx hb rfl ti_1 dX9_refusalToBid_2 (by decide) (fun c_1 => ?_) (fun c_1 => ?_)
  · skip
    refine lv_bipush (v := (-3)) hx hb dX9_refusalToBid_25 (by decide) ?_
    exact zaI hQ hx hb hr hlk hP hS ⟨hI, rfl⟩ dX9_refusalToBid_27
  · skip
    refine lv_iload_n hx hb dX9_refusalToBid_5 rfl (lv_at hl 3 rfl) ?_
    refine lv_aload_n hx hb dX9_refusalToBid_6 rfl (lv_at hl 0 rfl) ?_
    refine lv_aload_n hx hb dX9_refusalToBid_7 rfl (lv_at hl 1 rfl) ?_
    refine zcI (zrV (As := [.ref a1]) (b := a0) (rest := [.int x3]) C hs hP hS (c_X9_sizeBy l D K hO vi va vg hI a0 ha0 hk0 a1 ha1 hk1) m_X9_sizeBy wm_X9_165 (zrecv hs hP ha0 (zF_8 hk0) rfl) ⟨by decide, by decide⟩ hl.1 (Nat.le_of_ble_eq_true rfl) dX9_refusalToBid_8) hS (fun x_2 V_2 H locs p_2 hP hS => ?_)
    obtain ⟨vi_2, va_2, vg_2⟩ := V_2
    obtain ⟨hI, hg_2⟩ := p_2
    try dsimp only at hI hg_2
    replace hg_2 := hg_2.symm
    subst hg_2
    refine bi_gt (tgt := 25) hx hb rfl rfl dX9_refusalToBid_11 (by decide) (fun c_3 => ?_) (fun c_3 => ?_)
    · skip
      refine lv_bipush (v := (-3)) hx hb dX9_refusalToBid_25 (by decide) ?_
      exact zaI hQ hx hb hr hlk hP hS ⟨hI, rfl⟩ dX9_refusalToBid_27
    · skip
      refine lv_iload hx hb dX9_refusalToBid_14 (lv_at hl 4 rfl) ?_
      refine bz_lt (tgt := 25) hx hb rfl dX9_refusalToBid_16 (by decide) (fun c_4 => ?_) (fun c_4 => ?_)
      · skip
        refine lv_bipush (v := (-3)) hx hb dX9_refusalToBid_25 (by decide) ?_
        exact zaI hQ hx hb hr hlk hP hS ⟨hI, rfl⟩ dX9_refusalToBid_27
      · skip
        refine lv_iload hx hb dX9_refusalToBid_19 (lv_at hl 4 rfl) ?_
        refine lv_iconst (v := 3) hx hb dX9_refusalToBid_21 (by decide) ?_
        refine bi_le (tgt := 28) hx hb rfl ti_3 dX9_refusalToBid_22 (by decide) (fun c_5 => ?_) (fun c_5 => ?_)
        · skip
          refine lv_aload_n hx hb dX9_refusalToBid_28 rfl (lv_at hl 0 rfl) ?_
          rcases hg_6 : vg a0 1 with _ | q_6
          · refine zgn_8_1 C hs hP ha0 hk0 wf_X9_64 hg_6 dX9_refusalToBid_29 ?_
            refine lv_ifnullN (tgt := 50) hx hb dX9_refusalToBid_32 (by decide) ?_
            refine lv_iconst (v := 0) hx hb dX9_refusalToBid_50 (by decide) ?_
            refine lv_istore (lv' := [(5, .int 0), (0, .ref a0), (1, .ref a1), (2, .int x2), (3, .int x3), (4, .int x4)]) hx hb dX9_refusalToBid_51 hl (by decide) rfl (fun ls hl => ?_)
            refine lv_iload hx hb dX9_refusalToBid_53 (lv_at hl 0 rfl) ?_
            refine bz_eq (tgt := 93) hx hb ti_0 dX9_refusalToBid_55 (by decide) (fun c_7 => ?_) (fun c_7 => ?_)
            · clear c_7
              refine lv_iconst (v := 1) hx hb dX9_refusalToBid_93 (by decide) ?_
              refine lv_goto (tgt := 98) hx hb dX9_refusalToBid_94 (by decide) ?_
              refine lv_istore (lv' := [(6, .int 1), (5, .int 0), (0, .ref a0), (1, .ref a1), (2, .int x2), (3, .int x3), (4, .int x4)]) hx hb dX9_refusalToBid_98 hl (by decide) rfl (fun ls hl => ?_)
              refine lv_iload hx hb dX9_refusalToBid_100 (lv_at hl 0 rfl) ?_
              refine bz_eq (tgt := 110) hx hb ti_1 dX9_refusalToBid_102 (by decide) (fun c_8 => ?_) (fun c_8 => ?_)
              · exact absurd c_8 (by decide)
              · clear c_8
                refine lv_bipush (v := (-4)) hx hb dX9_refusalToBid_105 (by decide) ?_
                refine lv_goto (tgt := 111) hx hb dX9_refusalToBid_107 (by decide) ?_
                exact zaI hQ hx hb hr hlk hP hS ⟨hI, rfl⟩ dX9_refusalToBid_111
            · exact absurd c_7 (by decide)
          · have hq_6 := hI.2.2.2.1 _ ha0 hk0 _ hg_6
            refine zgs_8_1 C hs hP ha0 hk0 wf_X9_64 hg_6 dX9_refusalToBid_29 ?_
            refine lv_ifnull hx hb dX9_refusalToBid_32 ?_
            refine lv_aload_n hx hb dX9_refusalToBid_35 rfl (lv_at hl 0 rfl) ?_
            refine zgs_8_1 C hs hP ha0 hk0 wf_X9_64 hg_6 dX9_refusalToBid_36 ?_
            refine zg_type C hs hP hq_6.1 hq_6.2 wf_X9_182 dX9_refusalToBid_39 ?_
            refine lv_iconst (v := 3) hx hb dX9_refusalToBid_42 (by decide) ?_
            have J_51_11 : ∀ (y_10 : Int32) (ls : Array Slot), (y_10 = 0 ∨ y_10 = 1) → lv_has ls 7 [(0, .ref a0), (1, .ref a1), (2, .int x2), (3, .int x3), (4, .int x4)] → W p l e (rmd 3) s m args below meth c H locs 0 0 Q (F0 m 51 ls [.int y_10]) := by
              intro y_10 ls hb_y_10 hl
              refine lv_istore (lv' := [(5, .int y_10), (0, .ref a0), (1, .ref a1), (2, .int x2), (3, .int x3), (4, .int x4)]) hx hb dX9_refusalToBid_51 hl (by decide) rfl (fun ls hl => ?_)
              refine lv_iload hx hb dX9_refusalToBid_53 (lv_at hl 0 rfl) ?_
              refine bz_eq (tgt := 93) hx hb rfl dX9_refusalToBid_55 (by decide) (fun c_13 => ?_) (fun c_13 => ?_)
              · skip
                refine lv_iconst (v := 1) hx hb dX9_refusalToBid_93 (by decide) ?_
                refine lv_goto (tgt := 98) hx hb dX9_refusalToBid_94 (by decide) ?_
                refine lv_istore (lv' := [(6, .int 1), (5, .int y_10), (0, .ref a0), (1, .ref a1), (2, .int x2), (3, .int x3), (4, .int x4)]) hx hb dX9_refusalToBid_98 hl (by decide) rfl (fun ls hl => ?_)
                refine lv_iload hx hb dX9_refusalToBid_100 (lv_at hl 0 rfl) ?_
                refine bz_eq (tgt := 110) hx hb ti_1 dX9_refusalToBid_102 (by decide) (fun c_14 => ?_) (fun c_14 => ?_)
                · exact absurd c_14 (by decide)
                · clear c_14
                  refine lv_bipush (v := (-4)) hx hb dX9_refusalToBid_105 (by decide) ?_
                  refine lv_goto (tgt := 111) hx hb dX9_refusalToBid_107 (by decide) ?_
                  exact zaI hQ hx hb hr hlk hP hS ⟨hI, rfl⟩ dX9_refusalToBid_111
              · skip
                refine lv_aload_n hx hb dX9_refusalToBid_58 rfl (lv_at hl 1 rfl) ?_
                refine zcS (zrV (As := []) (b := a0) (rest := []) C hs hP hS (c_X9_isOn l D K hO vi_2 va_2 vg hI a0 ha0 hk0) m_X9_isOn wm_X9_169 (zrecv hs hP ha0 (zF_8 hk0) rfl) ⟨by decide, by decide⟩ hl.1 (Nat.le_of_ble_eq_true rfl) dX9_refusalToBid_59) (fun x_15 p_15 => ?_)
                refine bz_eq (tgt := 93) hx hb rfl dX9_refusalToBid_62 (by decide) (fun c_16 => ?_) (fun c_16 => ?_)
                · skip
                  refine lv_iconst (v := 1) hx hb dX9_refusalToBid_93 (by decide) ?_
                  refine lv_goto (tgt := 98) hx hb dX9_refusalToBid_94 (by decide) ?_
                  refine lv_istore (lv' := [(6, .int 1), (5, .int y_10), (0, .ref a0), (1, .ref a1), (2, .int x2), (3, .int x3), (4, .int x4)]) hx hb dX9_refusalToBid_98 hl (by decide) rfl (fun ls hl => ?_)
                  refine lv_iload hx hb dX9_refusalToBid_100 (lv_at hl 0 rfl) ?_
                  refine bz_eq (tgt := 110) hx hb ti_1 dX9_refusalToBid_102 (by decide) (fun c_17 => ?_) (fun c_17 => ?_)
                  · exact absurd c_17 (by decide)
                  · clear c_17
                    refine lv_bipush (v := (-4)) hx hb dX9_refusalToBid_105 (by decide) ?_
                    refine lv_goto (tgt := 111) hx hb dX9_refusalToBid_107 (by decide) ?_
                    exact zaI hQ hx hb hr hlk hP hS ⟨hI, rfl⟩ dX9_refusalToBid_111
                · skip
                  refine lv_aload_n hx hb dX9_refusalToBid_65 rfl (lv_at hl 1 rfl) ?_
                  refine zcS (zrV (As := []) (b := a0) (rest := []) C hs hP hS (c_X9_isBegun l D K hO vi_2 va_2 vg hI a0 ha0 hk0) m_X9_isBegun wm_X9_173 (zrecv hs hP ha0 (zF_8 hk0) rfl) ⟨by decide, by decide⟩ hl.1 (Nat.le_of_ble_eq_true rfl) dX9_refusalToBid_66) (fun x_18 p_18 => ?_)
                  refine bz_ne (tgt := 93) hx hb rfl dX9_refusalToBid_69 (by decide) (fun c_19 => ?_) (fun c_19 => ?_)
                  · skip
                    refine lv_iconst (v := 1) hx hb dX9_refusalToBid_93 (by decide) ?_
                    refine lv_goto (tgt := 98) hx hb dX9_refusalToBid_94 (by decide) ?_
                    refine lv_istore (lv' := [(6, .int 1), (5, .int y_10), (0, .ref a0), (1, .ref a1), (2, .int x2), (3, .int x3), (4, .int x4)]) hx hb dX9_refusalToBid_98 hl (by decide) rfl (fun ls hl => ?_)
                    refine lv_iload hx hb dX9_refusalToBid_100 (lv_at hl 0 rfl) ?_
                    refine bz_eq (tgt := 110) hx hb ti_1 dX9_refusalToBid_102 (by decide) (fun c_20 => ?_) (fun c_20 => ?_)
                    · exact absurd c_20 (by decide)
                    · clear c_20
                      refine lv_bipush (v := (-4)) hx hb dX9_refusalToBid_105 (by decide) ?_
                      refine lv_goto (tgt := 111) hx hb dX9_refusalToBid_107 (by decide) ?_
                      exact zaI hQ hx hb hr hlk hP hS ⟨hI, rfl⟩ dX9_refusalToBid_111
                  · skip
                    refine lv_aload_n hx hb dX9_refusalToBid_72 rfl (lv_at hl 1 rfl) ?_
                    refine lv_iload_n hx hb dX9_refusalToBid_73 rfl (lv_at hl 3 rfl) ?_
                    refine zcS (zrV (As := [.int x2]) (b := a0) (rest := []) C hs hP hS (c_X9_isTaken l D K hO vi_2 va_2 vg hI a0 ha0 hk0 x2) m_X9_isTaken wm_X9_150 (zrecv hs hP ha0 (zF_8 hk0) rfl) ⟨by decide, by decide⟩ hl.1 (Nat.le_of_ble_eq_true rfl) dX9_refusalToBid_74) (fun x_21 p_21 => ?_)
                    refine bz_eq (tgt := 93) hx hb rfl dX9_refusalToBid_77 (by decide) (fun c_22 => ?_) (fun c_22 => ?_)
                    · skip
                      refine lv_iconst (v := 1) hx hb dX9_refusalToBid_93 (by decide) ?_
                      refine lv_goto (tgt := 98) hx hb dX9_refusalToBid_94 (by decide) ?_
                      refine lv_istore (lv' := [(6, .int 1), (5, .int y_10), (0, .ref a0), (1, .ref a1), (2, .int x2), (3, .int x3), (4, .int x4)]) hx hb dX9_refusalToBid_98 hl (by decide) rfl (fun ls hl => ?_)
                      refine lv_iload hx hb dX9_refusalToBid_100 (lv_at hl 0 rfl) ?_
                      refine bz_eq (tgt := 110) hx hb ti_1 dX9_refusalToBid_102 (by decide) (fun c_23 => ?_) (fun c_23 => ?_)
                      · exact absurd c_23 (by decide)
                      · clear c_23
                        refine lv_bipush (v := (-4)) hx hb dX9_refusalToBid_105 (by decide) ?_
                        refine lv_goto (tgt := 111) hx hb dX9_refusalToBid_107 (by decide) ?_
                        exact zaI hQ hx hb hr hlk hP hS ⟨hI, rfl⟩ dX9_refusalToBid_111
                    · skip
                      refine lv_aload_n hx hb dX9_refusalToBid_80 rfl (lv_at hl 1 rfl) ?_
                      refine zg_8_13 C hs hP ha0 hk0 wf_X9_47 dX9_refusalToBid_81 ?_
                      have hf_24 := hO.r (j := 13) ha0 hk0 (rfl : zX 8 13 = some (1, 0))
                      refine lv_iload_n hx hb dX9_refusalToBid_84 rfl (lv_at hl 4 rfl) ?_
                      refine lv_iload hx hb dX9_refusalToBid_85 (lv_at hl 5 rfl) ?_
                      refine zcS (zrV (As := [.int x3, .int x4]) (b := zr K a0 13) (rest := []) C hs hP hS (c_X1_isAboveBid l D K hO vi_2 va_2 vg hI (zr K a0 13) hf_24.1 hf_24.2.1 x3 x4) m_X1_isAboveBid wm_X9_185 (zrecv hs hP hf_24.1 (zF_1 hf_24.2.1) rfl) ⟨by decide, by decide⟩ hl.1 (Nat.le_of_ble_eq_true rfl) dX9_refusalToBid_87) (fun x_25 p_25 => ?_)
                      refine bz_ne (tgt := 97) hx hb rfl dX9_refusalToBid_90 (by decide) (fun c_26 => ?_) (fun c_26 => ?_)
                      · skip
                        refine lv_iconst (v := 0) hx hb dX9_refusalToBid_97 (by decide) ?_
                        refine lv_istore (lv' := [(6, .int 0), (5, .int y_10), (0, .ref a0), (1, .ref a1), (2, .int x2), (3, .int x3), (4, .int x4)]) hx hb dX9_refusalToBid_98 hl (by decide) rfl (fun ls hl => ?_)
                        refine lv_iload hx hb dX9_refusalToBid_100 (lv_at hl 0 rfl) ?_
                        refine bz_eq (tgt := 110) hx hb ti_0 dX9_refusalToBid_102 (by decide) (fun c_27 => ?_) (fun c_27 => ?_)
                        · clear c_27
                          refine lv_iconst (v := 0) hx hb dX9_refusalToBid_110 (by decide) ?_
                          exact zaI hQ hx hb hr hlk hP hS ⟨hI, rfl⟩ dX9_refusalToBid_111
                        · exact absurd c_27 (by decide)
                      · skip
                        refine lv_iconst (v := 1) hx hb dX9_refusalToBid_93 (by decide) ?_
                        refine lv_goto (tgt := 98) hx hb dX9_refusalToBid_94 (by decide) ?_
                        refine lv_istore (lv' := [(6, .int 1), (5, .int y_10), (0, .ref a0), (1, .ref a1), (2, .int x2), (3, .int x3), (4, .int x4)]) hx hb dX9_refusalToBid_98 hl (by decide) rfl (fun ls hl => ?_)
                        refine lv_iload hx hb dX9_refusalToBid_100 (lv_at hl 0 rfl) ?_
                        refine bz_eq (tgt := 110) hx hb ti_1 dX9_refusalToBid_102 (by decide) (fun c_28 => ?_) (fun c_28 => ?_)
                        · exact absurd c_28 (by decide)
                        · clear c_28
                          refine lv_bipush (v := (-4)) hx hb dX9_refusalToBid_105 (by decide) ?_
                          refine lv_goto (tgt := 111) hx hb dX9_refusalToBid_107 (by decide) ?_
                          exact zaI hQ hx hb hr hlk hP hS ⟨hI, rfl⟩ dX9_refusalToBid_111
            refine bi_ne (tgt := 50) hx hb rfl ti_3 dX9_refusalToBid_43 (by decide) (fun c_9 => ?_) (fun c_9 => ?_)
            · skip
              refine lv_iconst (v := 0) hx hb dX9_refusalToBid_50 (by decide) ?_
              exact J_51_11 0 _ (Or.inl rfl) (lv_sub hl [0, 1, 2, 3, 4] rfl)
            · skip
              refine lv_iconst (v := 1) hx hb dX9_refusalToBid_46 (by decide) ?_
              refine lv_goto (tgt := 51) hx hb dX9_refusalToBid_47 (by decide) ?_
              exact J_51_11 1 _ (Or.inr rfl) (lv_sub hl [0, 1, 2, 3, 4] rfl)
        · skip
          refine lv_bipush (v := (-3)) hx hb dX9_refusalToBid_25 (by decide) ?_
          exact zaI hQ hx hb hr hlk hP hS ⟨hI, rfl⟩ dX9_refusalToBid_27
set_option maxHeartbeats 4000000 in
set_option maxRecDepth 100000 in
theorem c_X9_ruleAgainst (l : Launch) (D : va_G) (K : zK) (hO : zOk K) (vi va : Nat → Nat → Int32) (vg : Nat → Nat → Option Nat) (hI : zI K (vi, va, vg)) (a0 : Nat) (ha0 : a0 ∈ zl K) (hk0 : zk K a0 = 8) (a1 : Nat) (ha1 : a1 ∈ zl K) (hk1 : zk K a1 = 5) (x2 : Int32) (x3 : Int32) : Met l yX9_ruleAgainst (zc yX9_ruleAgainst cX9_ruleAgainst 5 (some .int)) (rmd 4) (va_Pc [.ref a0, .ref a1, .int x2, .int x3] (zB D K (vi, va, vg))) (zQi D K (fun r V' => zI K V' ∧ V'.2.2 = vg)) 0 0 (zA K) := by
  refine zin (by decide) (Nat.le_of_ble_eq_true rfl) ?_
  intro p e s m args below meth c ls Q hQ C hr hlk hP hs hl
  have C : CallFix p m c cX9_ruleAgainst 5 s args zw RX9 := C
  obtain ⟨hx, hb, hml, hown, hts⟩ := id C
  have hS : va_S (zA K) s.heap s.heap [] := va_S.rf
  have hl : lv_has ls 5 [(0, .ref a0), (1, .ref a1), (2, .int x2), (3, .int x3)] := hl
  refine lv_aload_n hx hb dX9_ruleAgainst_0 rfl (lv_at hl 0 rfl) ?_
  refine lv_iload_n hx hb dX9_ruleAgainst_1 rfl (lv_at hl 2 rfl) ?_
  refine zcSq (zrV (As := [.int x2]) (b := a0) (rest := []) C hs hP hS (c_X9_handOf l D K hO vi va vg hI a0 ha0 hk0 x2) m_X9_handOf wm_X9_119 (zrecv hs hP ha0 (zF_8 hk0) rfl) ⟨by decide, by decide⟩ hl.1 (Nat.le_of_ble_eq_true rfl) dX9_ruleAgainst_2) (fun p_1 => ?_) (fun q_1 p_1 => ?_)
  · skip
    obtain ⟨q9, h9, -⟩ := p_1; cases h9
  · skip
    obtain ⟨q9, h9, h8, h7⟩ := p_1
    cases h9
    have h8_q_1 := h8; have h7_q_1 := h7; clear h8 h7
    refine lv_astore (lv' := [(4, .ref q_1), (0, .ref a0), (1, .ref a1), (2, .int x2), (3, .int x3)]) hx hb dX9_ruleAgainst_5 hl (by decide) rfl (fun ls hl => ?_)
    refine lv_aload_n hx hb dX9_ruleAgainst_7 rfl (lv_at hl 1 rfl) ?_
    rcases hg_2 : vg a0 1 with _ | q_2
    · refine zgn_8_1 C hs hP ha0 hk0 wf_X9_64 hg_2 dX9_ruleAgainst_8 ?_
      refine lv_ifnonnullN hx hb dX9_ruleAgainst_11 ?_
      refine lv_iconst (v := 0) hx hb dX9_ruleAgainst_14 (by decide) ?_
      refine lv_goto (tgt := 39) hx hb dX9_ruleAgainst_15 (by decide) ?_
      exact zaI hQ hx hb hr hlk hP hS ⟨hI, rfl⟩ dX9_ruleAgainst_39
    · have hq_2 := hI.2.2.2.1 _ ha0 hk0 _ hg_2
      refine zgs_8_1 C hs hP ha0 hk0 wf_X9_64 hg_2 dX9_ruleAgainst_8 ?_
      refine lv_ifnonnull (tgt := 18) hx hb dX9_ruleAgainst_11 (by decide) ?_
      refine lv_aload_n hx hb dX9_ruleAgainst_18 rfl (lv_at hl 1 rfl) ?_
      refine zgs_8_1 C hs hP ha0 hk0 wf_X9_64 hg_2 dX9_ruleAgainst_19 ?_
      refine lv_aload_n hx hb dX9_ruleAgainst_22 rfl (lv_at hl 2 rfl) ?_
      refine lv_aload_n hx hb dX9_ruleAgainst_23 rfl (lv_at hl 1 rfl) ?_
      refine lv_aload hx hb dX9_ruleAgainst_24 (lv_at hl 0 rfl) ?_
      refine lv_aload_n hx hb dX9_ruleAgainst_26 rfl (lv_at hl 1 rfl) ?_
      refine zg_8_10 C hs hP ha0 hk0 wf_X9_34 dX9_ruleAgainst_27 ?_
      have hf_3 := hO.r (j := 10) ha0 hk0 (rfl : zX 8 10 = some (7, 0))
      refine lv_aload hx hb dX9_ruleAgainst_30 (lv_at hl 0 rfl) ?_
      refine lv_iload_n hx hb dX9_ruleAgainst_32 rfl (lv_at hl 4 rfl) ?_
      refine zcS (zrV (As := [.int x3]) (b := q_1) (rest := [.ref (zr K a0 10), .ref q_1, .ref a0, .ref a1, .ref q_2]) C hs hP hS (c_X8_at l D K hO vi va vg hI q_1 h8_q_1 h7_q_1 x3) m_X8_at wm_X9_123 (zrecv hs hP h8_q_1 (zF_7 h7_q_1) rfl) ⟨by decide, by decide⟩ hl.1 (Nat.le_of_ble_eq_true rfl) dX9_ruleAgainst_33) (fun x_4 p_4 => ?_)
      have run_5 : va_Run p l e (rmd 4) s m args below meth c s.heap [] 0 0 0 0 (F0 m 36 ls [.int x_4, .ref (zr K a0 10), .ref q_1, .ref a0, .ref a1, .ref q_2]) [] ((zQi D K (fun r V' => zI K V' ∧ V'.2.2 = vg)) ([.ref q_2, .ref a1, .ref a0, .ref q_1, .ref (zr K a0 10), .int x_4] : List Value).toArray) (zA K) := by
        rcases hq_2.2 with (h9 | h9 | h9 | h9) | h9
        · exact zrUA (Cn := RX0) (As := [.ref a1, .ref a0, .ref q_1, .ref (zr K a0 10), .int x_4]) (b := q_2) (rest := []) C hs hP hS (c_X5_allows l D K hO vi va vg hI q_2 hq_2.1 (Or.inl h9) a1 ha1 hk1 a0 ha0 hk0 q_1 h8_q_1 h7_q_1 (zr K a0 10) hf_3.1 hf_3.2.1 x_4) m0_X5_allows wi_X5_allows wm_X9_198 wq_X4_X4_allows we_X0_X4_allows (List.mem_of_getElem? (l := nw_D) (i := 1) rfl) ⟨by decide, by decide⟩ rfl (zrecv hs hP hq_2.1 (zF_0 h9) rfl) ⟨by decide, by decide⟩ hl.1 (Nat.le_of_ble_eq_true rfl) dX9_ruleAgainst_36
        · exact zrUA (Cn := RX3) (As := [.ref a1, .ref a0, .ref q_1, .ref (zr K a0 10), .int x_4]) (b := q_2) (rest := []) C hs hP hS (c_X3_allows l D K hO vi va vg hI q_2 hq_2.1 (Or.inr (Or.inl h9)) a1 ha1 hk1 a0 ha0 hk0 q_1 h8_q_1 h7_q_1 (zr K a0 10) hf_3.1 hf_3.2.1 x_4) m0_X3_allows wi_X3_allows wm_X9_198 wq_X4_X4_allows we_X3_X4_allows (List.mem_of_getElem? (l := nw_D) (i := 1) rfl) ⟨by decide, by decide⟩ rfl (zrecv hs hP hq_2.1 (zF_3 h9) rfl) ⟨by decide, by decide⟩ hl.1 (Nat.le_of_ble_eq_true rfl) dX9_ruleAgainst_36
        · exact zrUA (Cn := RX5) (As := [.ref a1, .ref a0, .ref q_1, .ref (zr K a0 10), .int x_4]) (b := q_2) (rest := []) C hs hP hS (c_X5_allows l D K hO vi va vg hI q_2 hq_2.1 (Or.inr (Or.inr (Or.inl h9))) a1 ha1 hk1 a0 ha0 hk0 q_1 h8_q_1 h7_q_1 (zr K a0 10) hf_3.1 hf_3.2.1 x_4) m0_X5_allows wi_X5_allows wm_X9_198 wq_X4_X4_allows we_X5_X4_allows (List.mem_of_getElem? (l := nw_D) (i := 1) rfl) ⟨by decide, by decide⟩ rfl (zrecv hs hP hq_2.1 (zF_4 h9) rfl) ⟨by decide, by decide⟩ hl.1 (Nat.le_of_ble_eq_true rfl) dX9_ruleAgainst_36
        · exact zrUA (Cn := RX10) (As := [.ref a1, .ref a0, .ref q_1, .ref (zr K a0 10), .int x_4]) (b := q_2) (rest := []) C hs hP hS (c_X10_allows l D K hO vi va vg hI q_2 hq_2.1 h9 a1 ha1 hk1 a0 ha0 hk0 q_1 h8_q_1 h7_q_1 (zr K a0 10) hf_3.1 hf_3.2.1 x_4) m0_X10_allows wi_X10_allows wm_X9_198 wq_X4_X4_allows we_X10_X4_allows (List.mem_of_getElem? (l := nw_D) (i := 1) rfl) ⟨by decide, by decide⟩ rfl (zrecv hs hP hq_2.1 (zF_9 h9) rfl) ⟨by decide, by decide⟩ hl.1 (Nat.le_of_ble_eq_true rfl) dX9_ruleAgainst_36
        · exact zrUA (Cn := RX7) (As := [.ref a1, .ref a0, .ref q_1, .ref (zr K a0 10), .int x_4]) (b := q_2) (rest := []) C hs hP hS (c_X7_allows l D K hO vi va vg hI q_2 hq_2.1 h9 a1 ha1 hk1 a0 ha0 hk0 q_1 h8_q_1 h7_q_1 (zr K a0 10) hf_3.1 hf_3.2.1 x_4) m0_X7_allows wi_X7_allows wm_X9_198 wq_X4_X4_allows we_X7_X4_allows (List.mem_of_getElem? (l := nw_D) (i := 1) rfl) ⟨by decide, by decide⟩ rfl (zrecv hs hP hq_2.1 (zF_6 h9) rfl) ⟨by decide, by decide⟩ hl.1 (Nat.le_of_ble_eq_true rfl) dX9_ruleAgainst_36
      refine zcI run_5 hS (fun x_6 V_6 H locs p_6 hP hS => ?_)
      obtain ⟨vi_6, va_6, vg_6⟩ := V_6
      obtain ⟨hI, hg_6⟩ := p_6
      try dsimp only at hI hg_6
      replace hg_6 := hg_6.symm
      subst hg_6
      exact zaI hQ hx hb hr hlk hP hS ⟨hI, rfl⟩ dX9_ruleAgainst_39
set_option maxHeartbeats 4000000 in
set_option maxRecDepth 100000 in
theorem c_X9_endDeal (l : Launch) (D : va_G) (K : zK) (hO : zOk K) (vi va : Nat → Nat → Int32) (vg : Nat → Nat → Option Nat) (hI : zI K (vi, va, vg)) (a0 : Nat) (ha0 : a0 ∈ zl K) (hk0 : zk K a0 = 8) (a1 : Nat) (ha1 : a1 ∈ zl K) (hk1 : zk K a1 = 5) : Met l yX9_endDeal (zc yX9_endDeal cX9_endDeal 3 none) (rmd 4) (va_Pc [.ref a0, .ref a1] (zB D K (vi, va, vg))) (zQv D K (fun V' => zI K V' ∧ V'.2.2 = vg)) 0 0 (zA K) := by
  refine zin (by decide) (Nat.le_of_ble_eq_true rfl) ?_
  intro p e s m args below meth c ls Q hQ C hr hlk hP hs hl
  have C : CallFix p m c cX9_endDeal 3 s args zw RX9 := C
  obtain ⟨hx, hb, hml, hown, hts⟩ := id C
  have hS : va_S (zA K) s.heap s.heap [] := va_S.rf
  have hl : lv_has ls 3 [(0, .ref a0), (1, .ref a1)] := hl
  refine lv_aload_n hx hb dX9_endDeal_0 rfl (lv_at hl 0 rfl) ?_
  refine zg_8_13 C hs hP ha0 hk0 wf_X9_47 dX9_endDeal_1 ?_
  have hf_1 := hO.r (j := 13) ha0 hk0 (rfl : zX 8 13 = some (1, 0))
  refine lv_iconst (v := 2) hx hb dX9_endDeal_4 (by decide) ?_
  refine kp_1_0 C hO hs hP hS hf_1.1 hf_1.2.1 wf_X9_97 hI dX9_endDeal_5 (fun vi_2 H locs hI hP hS => ?_)
  refine lv_aload_n hx hb dX9_endDeal_8 rfl (lv_at hl 0 rfl) ?_
  refine zg_8_13 C hs hP ha0 hk0 wf_X9_47 dX9_endDeal_9 ?_
  refine lv_iconst (v := (-1)) hx hb dX9_endDeal_12 (by decide) ?_
  refine kp_1_2 C hO hs hP hS hf_1.1 hf_1.2.1 wf_X9_147 hI dX9_endDeal_13 (fun vi_3 H locs hI hP hS => ?_)
  refine lv_iconst (v := 0) hx hb dX9_endDeal_16 (by decide) ?_
  refine lv_istore_n (lv' := [(2, .int 0), (0, .ref a0), (1, .ref a1)]) hx hb dX9_endDeal_17 rfl hl (by decide) rfl (fun ls hl => ?_)
  have L_18_5 : ∀ (n_5 : Nat) (vi_6 : Nat → Nat → Int32) (va_6 : Nat → Nat → Int32) (H : Heap) (locs : List Loc) (y_4 : Int32) (ls : Array Slot), (2147483648 - y_4.toInt).toNat < n_5 → 0 ≤ y_4.toInt → zI K (vi_6, va_6, vg) → va_P D vwCl (zW K (vi_6, va_6, vg)) H → va_S (zA K) s.heap H locs → lv_has ls 3 [(2, .int y_4), (0, .ref a0), (1, .ref a1)] → W p l e (rmd 4) s m args below meth c H locs 0 0 Q (F0 m 18 ls []) := by
    intro n_5
    induction n_5 with
    | zero => intro vi_6 va_6 H locs y_4 ls hm_5; exact absurd hm_5 (Nat.not_lt_zero _)
    | succ n_5 ih_5 =>
      intro vi_6 va_6 H locs y_4 ls hm_5 iv_6_0 hI hP hS hl
      refine lv_iload_n hx hb dX9_endDeal_18 rfl (lv_at hl 0 rfl) ?_
      refine lv_iconst (v := 2) hx hb dX9_endDeal_19 (by decide) ?_
      refine bi_ge (tgt := 64) hx hb rfl ti_2 dX9_endDeal_20 (by decide) (fun c_8 => ?_) (fun c_8 => ?_)
      · skip
        exact zaV hQ hx hb hr hlk hP hS ⟨hI, rfl⟩ dX9_endDeal_64
      · skip
        refine lv_aload_n hx hb dX9_endDeal_23 rfl (lv_at hl 1 rfl) ?_
        rcases hg_9 : vg a0 1 with _ | q_9
        · refine zgn_8_1 C hs hP ha0 hk0 wf_X9_64 hg_9 dX9_endDeal_24 ?_
          refine lv_ifnullN (tgt := 64) hx hb dX9_endDeal_27 (by decide) ?_
          exact zaV hQ hx hb hr hlk hP hS ⟨hI, rfl⟩ dX9_endDeal_64
        · have hq_9 := hI.2.2.2.1 _ ha0 hk0 _ hg_9
          refine zgs_8_1 C hs hP ha0 hk0 wf_X9_64 hg_9 dX9_endDeal_24 ?_
          refine lv_ifnull hx hb dX9_endDeal_27 ?_
          refine lv_aload_n hx hb dX9_endDeal_30 rfl (lv_at hl 1 rfl) ?_
          refine lv_aload_n hx hb dX9_endDeal_31 rfl (lv_at hl 2 rfl) ?_
          refine lv_iload_n hx hb dX9_endDeal_32 rfl (lv_at hl 0 rfl) ?_
          refine lv_aload_n hx hb dX9_endDeal_33 rfl (lv_at hl 1 rfl) ?_
          refine zgs_8_1 C hs hP ha0 hk0 wf_X9_64 hg_9 dX9_endDeal_34 ?_
          refine lv_aload_n hx hb dX9_endDeal_37 rfl (lv_at hl 2 rfl) ?_
          refine lv_aload_n hx hb dX9_endDeal_38 rfl (lv_at hl 1 rfl) ?_
          refine zg_8_13 C hs hP ha0 hk0 wf_X9_47 dX9_endDeal_39 ?_
          refine lv_iload_n hx hb dX9_endDeal_42 rfl (lv_at hl 0 rfl) ?_
          refine lv_aload_n hx hb dX9_endDeal_43 rfl (lv_at hl 1 rfl) ?_
          refine zg_8_13 C hs hP ha0 hk0 wf_X9_47 dX9_endDeal_44 ?_
          refine zg_1_12 C hs hP hf_1.1 hf_1.2.1 wf_X9_238 dX9_endDeal_47 ?_
          have hf_10 := hO.r (j := 12) hf_1.1 hf_1.2.1 (rfl : zX 1 12 = some (20, 2))
          refine lv_iload_n hx hb dX9_endDeal_50 rfl (lv_at hl 0 rfl) ?_
          have g_12 := z_rng y_4
          have hin_11 : vp_in y_4 (zn K (zr K (zr K a0 13) 12)) := vp_in_iff.mpr (by rw [(hf_10.2.2 (by decide))]; refine ⟨?_, ?_⟩ <;> omega)
          refine zld_20 C hs hP hf_10.1 hf_10.2.1 hin_11 dX9_endDeal_51 ?_
          have run_13 : va_Run p l e (rmd 4) s m args below meth c H locs 0 0 0 0 (F0 m 52 ls [.int (va_6 (zr K (zr K a0 13) 12) y_4.toNatClampNeg), .int y_4, .ref (zr K a0 13), .ref a1, .ref q_9, .int y_4, .ref a1, .ref a0]) [.int y_4, .ref a1, .ref a0] ((zQi D K (fun r V' => zI K V' ∧ V'.2.2 = vg)) ([.ref q_9, .ref a1, .ref (zr K a0 13), .int y_4, .int (va_6 (zr K (zr K a0 13) 12) y_4.toNatClampNeg)] : List Value).toArray) (zA K) := by
            rcases hq_9.2 with (h9 | h9 | h9 | h9) | h9
            · exact zrUA (Cn := RX0) (As := [.ref a1, .ref (zr K a0 13), .int y_4, .int (va_6 (zr K (zr K a0 13) 12) y_4.toNatClampNeg)]) (b := q_9) (rest := [.int y_4, .ref a1, .ref a0]) C hs hP hS (c_X0_settle l D K hO vi_6 va_6 vg hI q_9 hq_9.1 h9 a1 ha1 hk1 (zr K a0 13) hf_1.1 hf_1.2.1 y_4 (va_6 (zr K (zr K a0 13) 12) y_4.toNatClampNeg)) m0_X0_settle wi_X0_settle wm_X9_241 wq_X4_X4_settle we_X0_X4_settle (List.mem_of_getElem? (l := nw_D) (i := 5) rfl) ⟨by decide, by decide⟩ rfl (zrecv hs hP hq_9.1 (zF_0 h9) rfl) ⟨by decide, by decide⟩ hl.1 (Nat.le_of_ble_eq_true rfl) dX9_endDeal_52
            · exact zrUA (Cn := RX3) (As := [.ref a1, .ref (zr K a0 13), .int y_4, .int (va_6 (zr K (zr K a0 13) 12) y_4.toNatClampNeg)]) (b := q_9) (rest := [.int y_4, .ref a1, .ref a0]) C hs hP hS (c_X3_settle l D K hO vi_6 va_6 vg hI q_9 hq_9.1 (Or.inr (Or.inl h9)) a1 ha1 hk1 (zr K a0 13) hf_1.1 hf_1.2.1 y_4 (va_6 (zr K (zr K a0 13) 12) y_4.toNatClampNeg)) m0_X3_settle wi_X3_settle wm_X9_241 wq_X4_X4_settle we_X3_X4_settle (List.mem_of_getElem? (l := nw_D) (i := 5) rfl) ⟨by decide, by decide⟩ rfl (zrecv hs hP hq_9.1 (zF_3 h9) rfl) ⟨by decide, by decide⟩ hl.1 (Nat.le_of_ble_eq_true rfl) dX9_endDeal_52
            · exact zrUA (Cn := RX5) (As := [.ref a1, .ref (zr K a0 13), .int y_4, .int (va_6 (zr K (zr K a0 13) 12) y_4.toNatClampNeg)]) (b := q_9) (rest := [.int y_4, .ref a1, .ref a0]) C hs hP hS (c_X3_settle l D K hO vi_6 va_6 vg hI q_9 hq_9.1 (Or.inr (Or.inr (Or.inl h9))) a1 ha1 hk1 (zr K a0 13) hf_1.1 hf_1.2.1 y_4 (va_6 (zr K (zr K a0 13) 12) y_4.toNatClampNeg)) m0_X3_settle wi_X3_settle wm_X9_241 wq_X4_X4_settle we_X5_X4_settle (List.mem_of_getElem? (l := nw_D) (i := 5) rfl) ⟨by decide, by decide⟩ rfl (zrecv hs hP hq_9.1 (zF_4 h9) rfl) ⟨by decide, by decide⟩ hl.1 (Nat.le_of_ble_eq_true rfl) dX9_endDeal_52
            · exact zrUA (Cn := RX10) (As := [.ref a1, .ref (zr K a0 13), .int y_4, .int (va_6 (zr K (zr K a0 13) 12) y_4.toNatClampNeg)]) (b := q_9) (rest := [.int y_4, .ref a1, .ref a0]) C hs hP hS (c_X3_settle l D K hO vi_6 va_6 vg hI q_9 hq_9.1 (Or.inr (Or.inr (Or.inr h9))) a1 ha1 hk1 (zr K a0 13) hf_1.1 hf_1.2.1 y_4 (va_6 (zr K (zr K a0 13) 12) y_4.toNatClampNeg)) m0_X3_settle wi_X3_settle wm_X9_241 wq_X4_X4_settle we_X10_X4_settle (List.mem_of_getElem? (l := nw_D) (i := 5) rfl) ⟨by decide, by decide⟩ rfl (zrecv hs hP hq_9.1 (zF_9 h9) rfl) ⟨by decide, by decide⟩ hl.1 (Nat.le_of_ble_eq_true rfl) dX9_endDeal_52
            · exact zrUA (Cn := RX7) (As := [.ref a1, .ref (zr K a0 13), .int y_4, .int (va_6 (zr K (zr K a0 13) 12) y_4.toNatClampNeg)]) (b := q_9) (rest := [.int y_4, .ref a1, .ref a0]) C hs hP hS (c_X7_settle l D K hO vi_6 va_6 vg hI q_9 hq_9.1 h9 a1 ha1 hk1 (zr K a0 13) hf_1.1 hf_1.2.1 y_4 (va_6 (zr K (zr K a0 13) 12) y_4.toNatClampNeg)) m0_X7_settle wi_X7_settle wm_X9_241 wq_X4_X4_settle we_X7_X4_settle (List.mem_of_getElem? (l := nw_D) (i := 5) rfl) ⟨by decide, by decide⟩ rfl (zrecv hs hP hq_9.1 (zF_6 h9) rfl) ⟨by decide, by decide⟩ hl.1 (Nat.le_of_ble_eq_true rfl) dX9_endDeal_52
          refine zcI run_13 hS (fun x_14 V_14 H locs p_14 hP hS => ?_)
          obtain ⟨vi_14, va_14, vg_14⟩ := V_14
          obtain ⟨hI, hg_14⟩ := p_14
          try dsimp only at hI hg_14
          replace hg_14 := hg_14.symm
          subst hg_14
          have g_15 := z_rng x_14
          have hq_16 : 0 ≤ y_4.toInt := by first | assumption | omega
          refine zcV (zrV (As := [.ref a1, .int y_4, .int x_14]) (b := a0) (rest := []) C hs hP hS (c_X9_share l D K hO vi_14 va_14 vg hI a0 ha0 hk0 a1 ha1 hk1 y_4 x_14 hq_16) m_X9_share wm_X9_245 (zrecv hs hP ha0 (zF_8 hk0) rfl) ⟨by decide, by decide⟩ hl.1 (Nat.le_of_ble_eq_true rfl) dX9_endDeal_55) hS (fun V_17 H locs p_17 hP hS => ?_)
          obtain ⟨vi_17, va_17, vg_17⟩ := V_17
          obtain ⟨hI, hg_17⟩ := p_17
          try dsimp only at hI hg_17
          replace hg_17 := hg_17.symm
          subst hg_17
          obtain ⟨x_18, ex_18⟩ : ∃ y : Int32, y = y_4 + 1 := ⟨_, rfl⟩
          refine lv_iinc (v := x_18) (lv' := [(2, .int x_18), (0, .ref a0), (1, .ref a1)]) hx hb dX9_endDeal_58 hl (k := 0) rfl (by rw [ex_18]; rfl) (by decide) rfl (fun ls hl => ?_)
          refine lv_goto (tgt := 18) hx hb dX9_endDeal_61 (by decide) ?_
          obtain ⟨f_18, l_18, u_18⟩ := z_add ex_18 rfl ti_1
          exact ih_5 vi_17 va_17 _ _ x_18 _ (by omega) (by omega) hI hP hS (lv_sub hl [0, 1, 2] rfl)
  exact L_18_5 _ vi_3 va _ _ 0 _ (Nat.lt_succ_self _) (by simp only [ti_0]; omega) hI hP hS (lv_sub hl [0, 1, 2] rfl)
set_option maxHeartbeats 4000000 in
set_option maxRecDepth 100000 in
theorem c_X9_endTrick (l : Launch) (D : va_G) (K : zK) (hO : zOk K) (vi va : Nat → Nat → Int32) (vg : Nat → Nat → Option Nat) (hI : zI K (vi, va, vg)) (a0 : Nat) (ha0 : a0 ∈ zl K) (hk0 : zk K a0 = 8) (a1 : Nat) (ha1 : a1 ∈ zl K) (hk1 : zk K a1 = 5) : Met l yX9_endTrick (zc yX9_endTrick cX9_endTrick 6 none) (rmd 5) (va_Pc [.ref a0, .ref a1] (zB D K (vi, va, vg))) (zQv D K (fun V' => zI K V' ∧ V'.2.2 = vg)) 0 0 (zA K) := by
  refine zin (by decide) (Nat.le_of_ble_eq_true rfl) ?_
  intro p e s m args below meth c ls Q hQ C hr hlk hP hs hl
  have C : CallFix p m c cX9_endTrick 6 s args zw RX9 := C
  obtain ⟨hx, hb, hml, hown, hts⟩ := id C
  have hS : va_S (zA K) s.heap s.heap [] := va_S.rf
  have hl : lv_has ls 6 [(0, .ref a0), (1, .ref a1)] := hl
  refine lv_aload_n hx hb dX9_endTrick_0 rfl (lv_at hl 0 rfl) ?_
  rcases hg_1 : vg a0 1 with _ | q_1
  · refine zgn_8_1 C hs hP ha0 hk0 wf_X9_64 hg_1 dX9_endTrick_1 ?_
    refine lv_ifnonnullN hx hb dX9_endTrick_4 ?_
    exact zaV hQ hx hb hr hlk hP hS ⟨hI, rfl⟩ dX9_endTrick_7
  · have hq_1 := hI.2.2.2.1 _ ha0 hk0 _ hg_1
    refine zgs_8_1 C hs hP ha0 hk0 wf_X9_64 hg_1 dX9_endTrick_1 ?_
    refine lv_ifnonnull (tgt := 8) hx hb dX9_endTrick_4 (by decide) ?_
    refine lv_aload_n hx hb dX9_endTrick_8 rfl (lv_at hl 0 rfl) ?_
    refine zgs_8_1 C hs hP ha0 hk0 wf_X9_64 hg_1 dX9_endTrick_9 ?_
    refine lv_aload_n hx hb dX9_endTrick_12 rfl (lv_at hl 1 rfl) ?_
    refine lv_aload_n hx hb dX9_endTrick_13 rfl (lv_at hl 0 rfl) ?_
    refine lv_aload_n hx hb dX9_endTrick_14 rfl (lv_at hl 0 rfl) ?_
    refine zg_8_10 C hs hP ha0 hk0 wf_X9_34 dX9_endTrick_15 ?_
    have hf_2 := hO.r (j := 10) ha0 hk0 (rfl : zX 8 10 = some (7, 0))
    have run_3 : va_Run p l e (rmd 5) s m args below meth c s.heap [] 0 0 0 0 (F0 m 18 ls [.ref (zr K a0 10), .ref a0, .ref a1, .ref q_1]) [] ((zQi D K (fun r V' => zI K V' ∧ V'.2.2 = vg)) ([.ref q_1, .ref a1, .ref a0, .ref (zr K a0 10)] : List Value).toArray) (zA K) := by
      rcases hq_1.2 with (h9 | h9 | h9 | h9) | h9
      · exact zrUA (Cn := RX0) (As := [.ref a1, .ref a0, .ref (zr K a0 10)]) (b := q_1) (rest := []) C hs hP hS (c_X0_wins l D K hO vi va vg hI q_1 hq_1.1 h9 a1 ha1 hk1 a0 ha0 hk0 (zr K a0 10) hf_2.1 hf_2.2.1) m0_X0_wins wi_X0_wins wm_X9_220 wq_X4_X4_wins we_X0_X4_wins (List.mem_of_getElem? (l := nw_D) (i := 2) rfl) ⟨by decide, by decide⟩ rfl (zrecv hs hP hq_1.1 (zF_0 h9) rfl) ⟨by decide, by decide⟩ hl.1 (Nat.le_of_ble_eq_true rfl) dX9_endTrick_18
      · exact zrUA (Cn := RX3) (As := [.ref a1, .ref a0, .ref (zr K a0 10)]) (b := q_1) (rest := []) C hs hP hS (c_X3_wins l D K hO vi va vg hI q_1 hq_1.1 (Or.inr (Or.inl h9)) a1 ha1 hk1 a0 ha0 hk0 (zr K a0 10) hf_2.1 hf_2.2.1) m0_X3_wins wi_X3_wins wm_X9_220 wq_X4_X4_wins we_X3_X4_wins (List.mem_of_getElem? (l := nw_D) (i := 2) rfl) ⟨by decide, by decide⟩ rfl (zrecv hs hP hq_1.1 (zF_3 h9) rfl) ⟨by decide, by decide⟩ hl.1 (Nat.le_of_ble_eq_true rfl) dX9_endTrick_18
      · exact zrUA (Cn := RX5) (As := [.ref a1, .ref a0, .ref (zr K a0 10)]) (b := q_1) (rest := []) C hs hP hS (c_X3_wins l D K hO vi va vg hI q_1 hq_1.1 (Or.inr (Or.inr (Or.inl h9))) a1 ha1 hk1 a0 ha0 hk0 (zr K a0 10) hf_2.1 hf_2.2.1) m0_X3_wins wi_X3_wins wm_X9_220 wq_X4_X4_wins we_X5_X4_wins (List.mem_of_getElem? (l := nw_D) (i := 2) rfl) ⟨by decide, by decide⟩ rfl (zrecv hs hP hq_1.1 (zF_4 h9) rfl) ⟨by decide, by decide⟩ hl.1 (Nat.le_of_ble_eq_true rfl) dX9_endTrick_18
      · exact zrUA (Cn := RX10) (As := [.ref a1, .ref a0, .ref (zr K a0 10)]) (b := q_1) (rest := []) C hs hP hS (c_X10_wins l D K hO vi va vg hI q_1 hq_1.1 h9 a1 ha1 hk1 a0 ha0 hk0 (zr K a0 10) hf_2.1 hf_2.2.1) m0_X10_wins wi_X10_wins wm_X9_220 wq_X4_X4_wins we_X10_X4_wins (List.mem_of_getElem? (l := nw_D) (i := 2) rfl) ⟨by decide, by decide⟩ rfl (zrecv hs hP hq_1.1 (zF_9 h9) rfl) ⟨by decide, by decide⟩ hl.1 (Nat.le_of_ble_eq_true rfl) dX9_endTrick_18
      · exact zrUA (Cn := RX7) (As := [.ref a1, .ref a0, .ref (zr K a0 10)]) (b := q_1) (rest := []) C hs hP hS (c_X7_wins l D K hO vi va vg hI q_1 hq_1.1 h9 a1 ha1 hk1 a0 ha0 hk0 (zr K a0 10) hf_2.1 hf_2.2.1) m0_X7_wins wi_X7_wins wm_X9_220 wq_X4_X4_wins we_X7_X4_wins (List.mem_of_getElem? (l := nw_D) (i := 2) rfl) ⟨by decide, by decide⟩ rfl (zrecv hs hP hq_1.1 (zF_6 h9) rfl) ⟨by decide, by decide⟩ hl.1 (Nat.le_of_ble_eq_true rfl) dX9_endTrick_18
    refine zcI run_3 hS (fun x_4 V_4 H locs p_4 hP hS => ?_)
    obtain ⟨vi_4, va_4, vg_4⟩ := V_4
    obtain ⟨hI, hg_4⟩ := p_4
    try dsimp only at hI hg_4
    replace hg_4 := hg_4.symm
    subst hg_4
    refine lv_istore_n (lv' := [(2, .int x_4), (0, .ref a0), (1, .ref a1)]) hx hb dX9_endTrick_21 rfl hl (by decide) rfl (fun ls hl => ?_)
    refine lv_aload_n hx hb dX9_endTrick_22 rfl (lv_at hl 1 rfl) ?_
    refine zg_8_11 C hs hP ha0 hk0 wf_X9_37 dX9_endTrick_23 ?_
    have hf_5 := hO.r (j := 11) ha0 hk0 (rfl : zX 8 11 = some (7, 0))
    refine lv_iload_n hx hb dX9_endTrick_26 rfl (lv_at hl 0 rfl) ?_
    refine zcS (zrV (As := [.int x_4]) (b := zr K a0 11) (rest := []) C hs hP hS (c_X8_at l D K hO vi_4 va_4 vg hI (zr K a0 11) hf_5.1 hf_5.2.1 x_4) m_X8_at wm_X9_123 (zrecv hs hP hf_5.1 (zF_7 hf_5.2.1) rfl) ⟨by decide, by decide⟩ hl.1 (Nat.le_of_ble_eq_true rfl) dX9_endTrick_27) (fun x_6 p_6 => ?_)
    refine lv_istore_n (lv' := [(3, .int x_6), (2, .int x_4), (0, .ref a0), (1, .ref a1)]) hx hb dX9_endTrick_30 rfl hl (by decide) rfl (fun ls hl => ?_)
    refine lv_iload_n hx hb dX9_endTrick_31 rfl (lv_at hl 0 rfl) ?_
    refine lv_iconst (v := 1) hx hb dX9_endTrick_32 (by decide) ?_
    refine lv_iand hx hb dX9_endTrick_33 ?_
    refine lv_topi (fun x_7 ex_7 => ?_)
    refine lv_istore (lv' := [(4, .int x_7), (3, .int x_6), (2, .int x_4), (0, .ref a0), (1, .ref a1)]) hx hb dX9_endTrick_34 hl (by decide) rfl (fun ls hl => ?_)
    refine lv_aload_n hx hb dX9_endTrick_36 rfl (lv_at hl 3 rfl) ?_
    refine zg_8_13 C hs hP ha0 hk0 wf_X9_47 dX9_endTrick_37 ?_
    have hf_8 := hO.r (j := 13) ha0 hk0 (rfl : zX 8 13 = some (1, 0))
    refine lv_iload hx hb dX9_endTrick_40 (lv_at hl 0 rfl) ?_
    refine lv_aload_n hx hb dX9_endTrick_42 rfl (lv_at hl 3 rfl) ?_
    refine zgs_8_1 C hs hP ha0 hk0 wf_X9_64 hg_1 dX9_endTrick_43 ?_
    refine lv_aload_n hx hb dX9_endTrick_46 rfl (lv_at hl 4 rfl) ?_
    refine lv_aload_n hx hb dX9_endTrick_47 rfl (lv_at hl 3 rfl) ?_
    refine lv_aload_n hx hb dX9_endTrick_48 rfl (lv_at hl 3 rfl) ?_
    refine zg_8_10 C hs hP ha0 hk0 wf_X9_34 dX9_endTrick_49 ?_
    refine lv_aload_n hx hb dX9_endTrick_52 rfl (lv_at hl 3 rfl) ?_
    refine zg_8_10 C hs hP ha0 hk0 wf_X9_34 dX9_endTrick_53 ?_
    refine lv_iload_n hx hb dX9_endTrick_56 rfl (lv_at hl 2 rfl) ?_
    refine zcS (zrV (As := [.int x_4]) (b := zr K a0 10) (rest := [.ref (zr K a0 10), .ref a0, .ref a1, .ref q_1, .int x_7, .ref (zr K a0 13)]) C hs hP hS (c_X8_at l D K hO vi_4 va_4 vg hI (zr K a0 10) hf_2.1 hf_2.2.1 x_4) m_X8_at wm_X9_123 (zrecv hs hP hf_2.1 (zF_7 hf_2.2.1) rfl) ⟨by decide, by decide⟩ hl.1 (Nat.le_of_ble_eq_true rfl) dX9_endTrick_57) (fun x_9 p_9 => ?_)
    have run_10 : va_Run p l e (rmd 5) s m args below meth c H locs 0 0 0 0 (F0 m 60 ls [.int x_9, .ref (zr K a0 10), .ref a0, .ref a1, .ref q_1, .int x_7, .ref (zr K a0 13)]) [.int x_7, .ref (zr K a0 13)] ((zQi D K (fun r V' => zI K V' ∧ V'.2.2 = vg)) ([.ref q_1, .ref a1, .ref a0, .ref (zr K a0 10), .int x_9] : List Value).toArray) (zA K) := by
      rcases hq_1.2 with (h9 | h9 | h9 | h9) | h9
      · exact zrUA (Cn := RX0) (As := [.ref a1, .ref a0, .ref (zr K a0 10), .int x_9]) (b := q_1) (rest := [.int x_7, .ref (zr K a0 13)]) C hs hP hS (c_X0_score l D K hO vi_4 va_4 vg hI q_1 hq_1.1 h9 a1 ha1 hk1 a0 ha0 hk0 (zr K a0 10) hf_2.1 hf_2.2.1 x_9) m0_X0_score wi_X0_score wm_X9_224 wq_X4_X4_score we_X0_X4_score (List.mem_of_getElem? (l := nw_D) (i := 4) rfl) ⟨by decide, by decide⟩ rfl (zrecv hs hP hq_1.1 (zF_0 h9) rfl) ⟨by decide, by decide⟩ hl.1 (Nat.le_of_ble_eq_true rfl) dX9_endTrick_60
      · exact zrUA (Cn := RX3) (As := [.ref a1, .ref a0, .ref (zr K a0 10), .int x_9]) (b := q_1) (rest := [.int x_7, .ref (zr K a0 13)]) C hs hP hS (c_X3_score l D K hO vi_4 va_4 vg hI q_1 hq_1.1 (Or.inr (Or.inl h9)) a1 ha1 hk1 a0 ha0 hk0 (zr K a0 10) hf_2.1 hf_2.2.1 x_9) m0_X3_score wi_X3_score wm_X9_224 wq_X4_X4_score we_X3_X4_score (List.mem_of_getElem? (l := nw_D) (i := 4) rfl) ⟨by decide, by decide⟩ rfl (zrecv hs hP hq_1.1 (zF_3 h9) rfl) ⟨by decide, by decide⟩ hl.1 (Nat.le_of_ble_eq_true rfl) dX9_endTrick_60
      · exact zrUA (Cn := RX5) (As := [.ref a1, .ref a0, .ref (zr K a0 10), .int x_9]) (b := q_1) (rest := [.int x_7, .ref (zr K a0 13)]) C hs hP hS (c_X5_score l D K hO vi_4 va_4 vg hI q_1 hq_1.1 (Or.inr (Or.inr (Or.inl h9))) a1 ha1 hk1 a0 ha0 hk0 (zr K a0 10) hf_2.1 hf_2.2.1 x_9) m0_X5_score wi_X5_score wm_X9_224 wq_X4_X4_score we_X5_X4_score (List.mem_of_getElem? (l := nw_D) (i := 4) rfl) ⟨by decide, by decide⟩ rfl (zrecv hs hP hq_1.1 (zF_4 h9) rfl) ⟨by decide, by decide⟩ hl.1 (Nat.le_of_ble_eq_true rfl) dX9_endTrick_60
      · exact zrUA (Cn := RX10) (As := [.ref a1, .ref a0, .ref (zr K a0 10), .int x_9]) (b := q_1) (rest := [.int x_7, .ref (zr K a0 13)]) C hs hP hS (c_X10_score l D K hO vi_4 va_4 vg hI q_1 hq_1.1 h9 a1 ha1 hk1 a0 ha0 hk0 (zr K a0 10) hf_2.1 hf_2.2.1 x_9) m0_X10_score wi_X10_score wm_X9_224 wq_X4_X4_score we_X10_X4_score (List.mem_of_getElem? (l := nw_D) (i := 4) rfl) ⟨by decide, by decide⟩ rfl (zrecv hs hP hq_1.1 (zF_9 h9) rfl) ⟨by decide, by decide⟩ hl.1 (Nat.le_of_ble_eq_true rfl) dX9_endTrick_60
      · exact zrUA (Cn := RX7) (As := [.ref a1, .ref a0, .ref (zr K a0 10), .int x_9]) (b := q_1) (rest := [.int x_7, .ref (zr K a0 13)]) C hs hP hS (c_X7_score l D K hO vi_4 va_4 vg hI q_1 hq_1.1 h9 a1 ha1 hk1 a0 ha0 hk0 (zr K a0 10) hf_2.1 hf_2.2.1 x_9) m0_X7_score wi_X7_score wm_X9_224 wq_X4_X4_score we_X7_X4_score (List.mem_of_getElem? (l := nw_D) (i := 4) rfl) ⟨by decide, by decide⟩ rfl (zrecv hs hP hq_1.1 (zF_6 h9) rfl) ⟨by decide, by decide⟩ hl.1 (Nat.le_of_ble_eq_true rfl) dX9_endTrick_60
    refine zcI run_10 hS (fun x_11 V_11 H locs p_11 hP hS => ?_)
    obtain ⟨vi_11, va_11, vg_11⟩ := V_11
    obtain ⟨hI, hg_11⟩ := p_11
    try dsimp only at hI hg_11
    replace hg_11 := hg_11.symm
    subst hg_11
    refine zcV (zrV (As := [.int x_7, .int x_11]) (b := zr K a0 13) (rest := []) C hs hP hS (c_X1_addTrick l D K hO vi_11 va_11 vg hI (zr K a0 13) hf_8.1 hf_8.2.1 x_7 x_11) m_X1_addTrick wm_X9_228 (zrecv hs hP hf_8.1 (zF_1 hf_8.2.1) rfl) ⟨by decide, by decide⟩ hl.1 (Nat.le_of_ble_eq_true rfl) dX9_endTrick_63) hS (fun V_12 H locs p_12 hP hS => ?_)
    obtain ⟨vi_12, va_12, vg_12⟩ := V_12
    obtain ⟨hI, hg_12⟩ := p_12
    try dsimp only at hI hg_12
    replace hg_12 := hg_12.symm
    subst hg_12
    refine lv_aload_n hx hb dX9_endTrick_66 rfl (lv_at hl 3 rfl) ?_
    refine zg_8_13 C hs hP ha0 hk0 wf_X9_47 dX9_endTrick_67 ?_
    refine lv_iload_n hx hb dX9_endTrick_70 rfl (lv_at hl 1 rfl) ?_
    refine kp_1_3 C hO hs hP hS hf_8.1 hf_8.2.1 wf_X9_231 hI dX9_endTrick_71 (fun vi_13 H locs hI hP hS => ?_)
    refine lv_iconst (v := 0) hx hb dX9_endTrick_74 (by decide) ?_
    refine lv_istore (lv' := [(5, .int 0), (4, .int x_7), (3, .int x_6), (2, .int x_4), (0, .ref a0), (1, .ref a1)]) hx hb dX9_endTrick_75 hl (by decide) rfl (fun ls hl => ?_)
    have L_77_15 : ∀ (n_15 : Nat) (vi_16 : Nat → Nat → Int32) (va_16 : Nat → Nat → Int32) (H : Heap) (locs : List Loc) (y_14 : Int32) (ls : Array Slot), (2147483648 - y_14.toInt).toNat < n_15 → 0 ≤ y_14.toInt → zI K (vi_16, va_16, vg) → va_P D vwCl (zW K (vi_16, va_16, vg)) H → va_S (zA K) s.heap H locs → lv_has ls 6 [(5, .int y_14), (4, .int x_7), (3, .int x_6), (2, .int x_4), (0, .ref a0), (1, .ref a1)] → W p l e (rmd 5) s m args below meth c H locs 0 0 Q (F0 m 77 ls []) := by
      intro n_15
      induction n_15 with
      | zero => intro vi_16 va_16 H locs y_14 ls hm_15; exact absurd hm_15 (Nat.not_lt_zero _)
      | succ n_15 ih_15 =>
        intro vi_16 va_16 H locs y_14 ls hm_15 iv_16_0 hI hP hS hl
        refine lv_iload hx hb dX9_endTrick_77 (lv_at hl 0 rfl) ?_
        refine lv_aload_n hx hb dX9_endTrick_79 rfl (lv_at hl 4 rfl) ?_
        refine zg_8_10 C hs hP ha0 hk0 wf_X9_34 dX9_endTrick_80 ?_
        refine zg_7_1 C hs hP hf_2.1 hf_2.2.1 wf_X9_110 dX9_endTrick_83 ?_
        refine bi_ge (tgt := 113) hx hb rfl rfl dX9_endTrick_86 (by decide) (fun c_18 => ?_) (fun c_18 => ?_)
        · skip
          refine lv_aload_n hx hb dX9_endTrick_113 rfl (lv_at hl 4 rfl) ?_
          refine zg_8_10 C hs hP ha0 hk0 wf_X9_34 dX9_endTrick_114 ?_
          refine lv_iconst (v := 0) hx hb dX9_endTrick_117 (by decide) ?_
          refine kp_7_1 C hO hs hP hS hf_2.1 hf_2.2.1 wf_X9_110 hI dX9_endTrick_118 (fun vi_24 H locs hI hP hS => ?_)
          refine lv_aload_n hx hb dX9_endTrick_121 rfl (lv_at hl 4 rfl) ?_
          refine zg_8_11 C hs hP ha0 hk0 wf_X9_37 dX9_endTrick_122 ?_
          refine lv_iconst (v := 0) hx hb dX9_endTrick_125 (by decide) ?_
          refine kp_7_1 C hO hs hP hS hf_5.1 hf_5.2.1 wf_X9_110 hI dX9_endTrick_126 (fun vi_25 H locs hI hP hS => ?_)
          refine lv_aload_n hx hb dX9_endTrick_129 rfl (lv_at hl 4 rfl) ?_
          refine zg_8_13 C hs hP ha0 hk0 wf_X9_47 dX9_endTrick_130 ?_
          refine lv_aload_n hx hb dX9_endTrick_133 rfl (lv_at hl 4 rfl) ?_
          refine lv_iload_n hx hb dX9_endTrick_134 rfl (lv_at hl 2 rfl) ?_
          refine zcS (zrV (As := [.int x_6]) (b := a0) (rest := [.ref (zr K a0 13)]) C hs hP hS (c_X9_nextAble l D K hO vi_25 va_16 vg hI a0 ha0 hk0 x_6) m_X9_nextAble wm_X9_144 (zrecv hs hP ha0 (zF_8 hk0) rfl) ⟨by decide, by decide⟩ hl.1 (Nat.le_of_ble_eq_true rfl) dX9_endTrick_135) (fun x_26 p_26 => ?_)
          refine kp_1_2 C hO hs hP hS hf_8.1 hf_8.2.1 wf_X9_147 hI dX9_endTrick_138 (fun vi_27 H locs hI hP hS => ?_)
          refine lv_aload_n hx hb dX9_endTrick_141 rfl (lv_at hl 4 rfl) ?_
          refine zg_8_13 C hs hP ha0 hk0 wf_X9_47 dX9_endTrick_142 ?_
          refine zg_1_2 C hs hP hf_8.1 hf_8.2.1 wf_X9_147 dX9_endTrick_145 ?_
          refine lv_iconst (v := (-1)) hx hb dX9_endTrick_148 (by decide) ?_
          refine bi_ne (tgt := 157) hx hb rfl ti_m1 dX9_endTrick_149 (by decide) (fun c_28 => ?_) (fun c_28 => ?_)
          · skip
            exact zaV hQ hx hb hr hlk hP hS ⟨hI, rfl⟩ dX9_endTrick_157
          · skip
            refine lv_aload_n hx hb dX9_endTrick_152 rfl (lv_at hl 4 rfl) ?_
            refine lv_aload_n hx hb dX9_endTrick_153 rfl (lv_at hl 5 rfl) ?_
            refine zcV (zrV (As := [.ref a1]) (b := a0) (rest := []) C hs hP hS (c_X9_endDeal l D K hO vi_27 va_16 vg hI a0 ha0 hk0 a1 ha1 hk1) m_X9_endDeal wm_X9_234 (zrecv hs hP ha0 (zF_8 hk0) rfl) ⟨by decide, by decide⟩ hl.1 (Nat.le_of_ble_eq_true rfl) dX9_endTrick_154) hS (fun V_29 H locs p_29 hP hS => ?_)
            obtain ⟨vi_29, va_29, vg_29⟩ := V_29
            obtain ⟨hI, hg_29⟩ := p_29
            try dsimp only at hI hg_29
            replace hg_29 := hg_29.symm
            subst hg_29
            exact zaV hQ hx hb hr hlk hP hS ⟨hI, rfl⟩ dX9_endTrick_157
        · skip
          refine lv_aload_n hx hb dX9_endTrick_89 rfl (lv_at hl 4 rfl) ?_
          refine lv_aload_n hx hb dX9_endTrick_90 rfl (lv_at hl 4 rfl) ?_
          refine zg_8_10 C hs hP ha0 hk0 wf_X9_34 dX9_endTrick_91 ?_
          refine lv_iload hx hb dX9_endTrick_94 (lv_at hl 0 rfl) ?_
          refine zcS (zrV (As := [.int y_14]) (b := zr K a0 10) (rest := [.ref a0]) C hs hP hS (c_X8_at l D K hO vi_16 va_16 vg hI (zr K a0 10) hf_2.1 hf_2.2.1 y_14) m_X8_at wm_X9_123 (zrecv hs hP hf_2.1 (zF_7 hf_2.2.1) rfl) ⟨by decide, by decide⟩ hl.1 (Nat.le_of_ble_eq_true rfl) dX9_endTrick_96) (fun x_30 p_30 => ?_)
          refine lv_bipush (v := 6) hx hb dX9_endTrick_99 (by decide) ?_
          refine lv_iload hx hb dX9_endTrick_101 (lv_at hl 1 rfl) ?_
          refine lv_iadd hx hb dX9_endTrick_103 ?_
          refine lv_topi (fun x_31 ex_31 => ?_)
          refine zcV (zrV (As := [.int x_30, .int x_31]) (b := a0) (rest := []) C hs hP hS (c_X9_moveTo l D K hO vi_16 va_16 vg hI a0 ha0 hk0 x_30 x_31) m_X9_moveTo wm_X9_127 (zrecv hs hP ha0 (zF_8 hk0) rfl) ⟨by decide, by decide⟩ hl.1 (Nat.le_of_ble_eq_true rfl) dX9_endTrick_104) hS (fun V_32 H locs p_32 hP hS => ?_)
          obtain ⟨vi_32, va_32, vg_32⟩ := V_32
          obtain ⟨hI, hg_32⟩ := p_32
          try dsimp only at hI hg_32
          replace hg_32 := hg_32.symm
          subst hg_32
          obtain ⟨x_33, ex_33⟩ : ∃ y : Int32, y = y_14 + 1 := ⟨_, rfl⟩
          refine lv_iinc (v := x_33) (lv' := [(5, .int x_33), (4, .int x_7), (3, .int x_6), (2, .int x_4), (0, .ref a0), (1, .ref a1)]) hx hb dX9_endTrick_107 hl (k := 0) rfl (by rw [ex_33]; rfl) (by decide) rfl (fun ls hl => ?_)
          refine lv_goto (tgt := 77) hx hb dX9_endTrick_110 (by decide) ?_
          have g_34 := z_rng y_14
          obtain ⟨f_33, l_33, u_33⟩ := z_add ex_33 rfl ti_1
          have g_35 := z_rng (vi_16 (zr K a0 10) 1)
          exact ih_15 vi_32 va_32 _ _ x_33 _ (by omega) (by omega) hI hP hS (lv_sub hl [0, 1, 2, 3, 4, 5] rfl)
    exact L_77_15 _ vi_13 va_12 _ _ 0 _ (Nat.lt_succ_self _) (by simp only [ti_0]; omega) hI hP hS (lv_sub hl [0, 1, 2, 3, 4, 5] rfl)
set_option maxHeartbeats 4000000 in
set_option maxRecDepth 100000 in
theorem c_X9_claimBy (l : Launch) (D : va_G) (K : zK) (hO : zOk K) (vi va : Nat → Nat → Int32) (vg : Nat → Nat → Option Nat) (hI : zI K (vi, va, vg)) (a0 : Nat) (ha0 : a0 ∈ zl K) (hk0 : zk K a0 = 8) (a1 : Nat) (ha1 : a1 ∈ zl K) (hk1 : zk K a1 = 5) (x2 : Int32) (x3 : Int32) (hp0 : 0 ≤ x2.toInt ∧ x2.toInt ≤ 1) : Met l yX9_claimBy (zc yX9_claimBy cX9_claimBy 8 none) (rmd 5) (va_Pc [.ref a0, .ref a1, .int x2, .int x3] (zB D K (vi, va, vg))) (zQv D K (fun V' => zI K V' ∧ V'.2.2 = vg)) 0 0 (zA K) := by
  refine zin (by decide) (Nat.le_of_ble_eq_true rfl) ?_
  intro p e s m args below meth c ls Q hQ C hr hlk hP hs hl
  have C : CallFix p m c cX9_claimBy 8 s args zw RX9 := C
  obtain ⟨hx, hb, hml, hown, hts⟩ := id C
  have hS : va_S (zA K) s.heap s.heap [] := va_S.rf
  have hl : lv_has ls 8 [(0, .ref a0), (1, .ref a1), (2, .int x2), (3, .int x3)] := hl
  refine lv_iconst (v := 0) hx hb dX9_claimBy_0 (by decide) ?_
  refine lv_istore (lv' := [(4, .int 0), (0, .ref a0), (1, .ref a1), (2, .int x2), (3, .int x3)]) hx hb dX9_claimBy_1 hl (by decide) rfl (fun ls hl => ?_)
  refine lv_iconst (v := 0) hx hb dX9_claimBy_3 (by decide) ?_
  refine lv_istore (lv' := [(5, .int 0), (4, .int 0), (0, .ref a0), (1, .ref a1), (2, .int x2), (3, .int x3)]) hx hb dX9_claimBy_4 hl (by decide) rfl (fun ls hl => ?_)
  have L_6_3 : ∀ (n_3 : Nat) (vi_4 : Nat → Nat → Int32) (va_4 : Nat → Nat → Int32) (H : Heap) (locs : List Loc) (y_1 : Int32) (y_2 : Int32) (ls : Array Slot), (2147483648 - y_1.toInt).toNat < n_3 → 0 ≤ y_1.toInt → zI K (vi_4, va_4, vg) → va_P D vwCl (zW K (vi_4, va_4, vg)) H → va_S (zA K) s.heap H locs → lv_has ls 8 [(5, .int y_1), (4, .int y_2), (0, .ref a0), (1, .ref a1), (2, .int x2), (3, .int x3)] → W p l e (rmd 5) s m args below meth c H locs 0 0 Q (F0 m 6 ls []) := by
    intro n_3
    induction n_3 with
    | zero => intro vi_4 va_4 H locs y_1 y_2 ls hm_3; exact absurd hm_3 (Nat.not_lt_zero _)
    | succ n_3 ih_3 =>
      intro vi_4 va_4 H locs y_1 y_2 ls hm_3 iv_4_0 hI hP hS hl
      refine lv_iload hx hb dX9_claimBy_6 (lv_at hl 0 rfl) ?_
      refine lv_iconst (v := 4) hx hb dX9_claimBy_8 (by decide) ?_
      refine bi_ge (tgt := 87) hx hb rfl ti_4 dX9_claimBy_9 (by decide) (fun c_6 => ?_) (fun c_6 => ?_)
      · skip
        refine lv_aload_n hx hb dX9_claimBy_87 rfl (lv_at hl 2 rfl) ?_
        refine zg_8_13 C hs hP ha0 hk0 wf_X9_47 dX9_claimBy_88 ?_
        have hf_35 := hO.r (j := 13) ha0 hk0 (rfl : zX 8 13 = some (1, 0))
        refine zg_1_11 C hs hP hf_35.1 hf_35.2.1 wf_X9_262 dX9_claimBy_91 ?_
        have hf_36 := hO.r (j := 11) hf_35.1 hf_35.2.1 (rfl : zX 1 11 = some (20, 2))
        refine lv_iload_n hx hb dX9_claimBy_94 rfl (lv_at hl 4 rfl) ?_
        refine lv_dup2_11 hx hb dX9_claimBy_95 rfl rfl ?_
        have g_38 := z_rng x2
        have hin_37 : vp_in x2 (zn K (zr K (zr K a0 13) 11)) := vp_in_iff.mpr (by rw [(hf_36.2.2 (by decide))]; refine ⟨?_, ?_⟩ <;> omega)
        refine zld_20 C hs hP hf_36.1 hf_36.2.1 hin_37 dX9_claimBy_96 ?_
        refine lv_iload_n hx hb dX9_claimBy_97 rfl (lv_at hl 5 rfl) ?_
        refine lv_iadd hx hb dX9_claimBy_98 ?_
        refine lv_topi (fun x_39 ex_39 => ?_)
        have hin_40 : vp_in x2 (zn K (zr K (zr K a0 13) 11)) := vp_in_iff.mpr (by rw [(hf_36.2.2 (by decide))]; refine ⟨?_, ?_⟩ <;> omega)
        refine ks_20 C hO hs hP hS hf_36.1 hf_36.2.1 hI hin_40 dX9_claimBy_99 (fun va_41 H locs hI hP hS => ?_)
        refine lv_aload_n hx hb dX9_claimBy_100 rfl (lv_at hl 2 rfl) ?_
        refine zg_8_13 C hs hP ha0 hk0 wf_X9_47 dX9_claimBy_101 ?_
        refine zg_1_12 C hs hP hf_35.1 hf_35.2.1 wf_X9_238 dX9_claimBy_104 ?_
        have hf_42 := hO.r (j := 12) hf_35.1 hf_35.2.1 (rfl : zX 1 12 = some (20, 2))
        refine lv_iload_n hx hb dX9_claimBy_107 rfl (lv_at hl 4 rfl) ?_
        refine lv_dup2_11 hx hb dX9_claimBy_108 rfl rfl ?_
        have hin_43 : vp_in x2 (zn K (zr K (zr K a0 13) 12)) := vp_in_iff.mpr (by rw [(hf_42.2.2 (by decide))]; refine ⟨?_, ?_⟩ <;> omega)
        refine zld_20 C hs hP hf_42.1 hf_42.2.1 hin_43 dX9_claimBy_109 ?_
        refine lv_iload_n hx hb dX9_claimBy_110 rfl (lv_at hl 5 rfl) ?_
        refine lv_iadd hx hb dX9_claimBy_111 ?_
        refine lv_topi (fun x_44 ex_44 => ?_)
        have hin_45 : vp_in x2 (zn K (zr K (zr K a0 13) 12)) := vp_in_iff.mpr (by rw [(hf_42.2.2 (by decide))]; refine ⟨?_, ?_⟩ <;> omega)
        refine ks_20 C hO hs hP hS hf_42.1 hf_42.2.1 hI hin_45 dX9_claimBy_112 (fun va_46 H locs hI hP hS => ?_)
        refine lv_aload_n hx hb dX9_claimBy_113 rfl (lv_at hl 2 rfl) ?_
        refine zg_8_13 C hs hP ha0 hk0 wf_X9_47 dX9_claimBy_114 ?_
        refine zg_1_11 C hs hP hf_35.1 hf_35.2.1 wf_X9_262 dX9_claimBy_117 ?_
        refine lv_iconst (v := 1) hx hb dX9_claimBy_120 (by decide) ?_
        refine lv_iload_n hx hb dX9_claimBy_121 rfl (lv_at hl 4 rfl) ?_
        refine lv_isub hx hb dX9_claimBy_122 ?_
        refine lv_topi (fun x_47 ex_47 => ?_)
        refine lv_dup2_11 hx hb dX9_claimBy_123 rfl rfl ?_
        obtain ⟨f_47, l_47, u_47⟩ := z_sub ex_47 ti_1 rfl
        have hin_48 : vp_in x_47 (zn K (zr K (zr K a0 13) 11)) := vp_in_iff.mpr (by rw [(hf_36.2.2 (by decide))]; refine ⟨?_, ?_⟩ <;> omega)
        refine zld_20 C hs hP hf_36.1 hf_36.2.1 hin_48 dX9_claimBy_124 ?_
        refine lv_iload hx hb dX9_claimBy_125 (lv_at hl 1 rfl) ?_
        refine lv_iload_n hx hb dX9_claimBy_127 rfl (lv_at hl 5 rfl) ?_
        refine lv_isub hx hb dX9_claimBy_128 ?_
        refine lv_topi (fun x_49 ex_49 => ?_)
        refine lv_iadd hx hb dX9_claimBy_129 ?_
        refine lv_topi (fun x_50 ex_50 => ?_)
        have hin_51 : vp_in x_47 (zn K (zr K (zr K a0 13) 11)) := vp_in_iff.mpr (by rw [(hf_36.2.2 (by decide))]; refine ⟨?_, ?_⟩ <;> omega)
        refine ks_20 C hO hs hP hS hf_36.1 hf_36.2.1 hI hin_51 dX9_claimBy_130 (fun va_52 H locs hI hP hS => ?_)
        refine lv_aload_n hx hb dX9_claimBy_131 rfl (lv_at hl 2 rfl) ?_
        refine zg_8_13 C hs hP ha0 hk0 wf_X9_47 dX9_claimBy_132 ?_
        refine zg_1_12 C hs hP hf_35.1 hf_35.2.1 wf_X9_238 dX9_claimBy_135 ?_
        refine lv_iconst (v := 1) hx hb dX9_claimBy_138 (by decide) ?_
        refine lv_iload_n hx hb dX9_claimBy_139 rfl (lv_at hl 4 rfl) ?_
        refine lv_isub hx hb dX9_claimBy_140 ?_
        refine lv_topi (fun x_53 ex_53 => ?_)
        refine lv_dup2_11 hx hb dX9_claimBy_141 rfl rfl ?_
        obtain ⟨f_53, l_53, u_53⟩ := z_sub ex_53 ti_1 rfl
        have hin_54 : vp_in x_53 (zn K (zr K (zr K a0 13) 12)) := vp_in_iff.mpr (by rw [(hf_42.2.2 (by decide))]; refine ⟨?_, ?_⟩ <;> omega)
        refine zld_20 C hs hP hf_42.1 hf_42.2.1 hin_54 dX9_claimBy_142 ?_
        refine lv_iload hx hb dX9_claimBy_143 (lv_at hl 1 rfl) ?_
        refine lv_iload_n hx hb dX9_claimBy_145 rfl (lv_at hl 5 rfl) ?_
        refine lv_isub hx hb dX9_claimBy_146 ?_
        refine lv_topi (fun x_55 ex_55 => ?_)
        refine lv_iadd hx hb dX9_claimBy_147 ?_
        refine lv_topi (fun x_56 ex_56 => ?_)
        have hin_57 : vp_in x_53 (zn K (zr K (zr K a0 13) 12)) := vp_in_iff.mpr (by rw [(hf_42.2.2 (by decide))]; refine ⟨?_, ?_⟩ <;> omega)
        refine ks_20 C hO hs hP hS hf_42.1 hf_42.2.1 hI hin_57 dX9_claimBy_148 (fun va_58 H locs hI hP hS => ?_)
        refine lv_aload_n hx hb dX9_claimBy_149 rfl (lv_at hl 2 rfl) ?_
        refine lv_aload_n hx hb dX9_claimBy_150 rfl (lv_at hl 3 rfl) ?_
        refine zcV (zrV (As := [.ref a1]) (b := a0) (rest := []) C hs hP hS (c_X9_endDeal l D K hO vi_4 va_58 vg hI a0 ha0 hk0 a1 ha1 hk1) m_X9_endDeal wm_X9_234 (zrecv hs hP ha0 (zF_8 hk0) rfl) ⟨by decide, by decide⟩ hl.1 (Nat.le_of_ble_eq_true rfl) dX9_claimBy_151) hS (fun V_59 H locs p_59 hP hS => ?_)
        obtain ⟨vi_59, va_59, vg_59⟩ := V_59
        obtain ⟨hI, hg_59⟩ := p_59
        try dsimp only at hI hg_59
        replace hg_59 := hg_59.symm
        subst hg_59
        exact zaV hQ hx hb hr hlk hP hS ⟨hI, rfl⟩ dX9_claimBy_154
      · skip
        refine lv_aload_n hx hb dX9_claimBy_12 rfl (lv_at hl 2 rfl) ?_
        refine zg_8_12 C hs hP ha0 hk0 wf_X9_40 dX9_claimBy_13 ?_
        have hf_60 := hO.r (j := 12) ha0 hk0 (rfl : zX 8 12 = some (23, 4))
        refine lv_iload hx hb dX9_claimBy_16 (lv_at hl 0 rfl) ?_
        have g_62 := z_rng y_1
        have hin_61 : vp_in y_1 (zn K (zr K a0 12)) := vp_in_iff.mpr (by rw [(hf_60.2.2 (by decide))]; refine ⟨?_, ?_⟩ <;> omega)
        refine zld_23 C hs hP hf_60.1 hf_60.2.1 hin_61 dX9_claimBy_18 ?_
        have hf_63 := zel_23 hO hf_60.1 hf_60.2.1 hin_61
        refine lv_astore (lv' := [(6, .ref (zr K (zr K a0 12) y_1.toNatClampNeg)), (5, .int y_1), (4, .int y_2), (0, .ref a0), (1, .ref a1), (2, .int x2), (3, .int x3)]) hx hb dX9_claimBy_19 hl (by decide) rfl (fun ls hl => ?_)
        refine lv_iload hx hb dX9_claimBy_21 (lv_at hl 2 rfl) ?_
        refine lv_aload hx hb dX9_claimBy_23 (lv_at hl 0 rfl) ?_
        refine zg_7_1 C hs hP hf_63.1 hf_63.2 wf_X9_110 dX9_claimBy_25 ?_
        refine va_mmax hx hb (hml.trans hl.1.symm) hown (hts _ wm_X9_259) (hts _ wt_Lib_Math_max_name) (hts _ wn_J9) (hts _ wo_max) (by decide) (Nat.le_of_ble_eq_true rfl) (Nat.zero_le _) (Nat.zero_le _) dX9_claimBy_28 ?_
        refine lv_topi (fun x_64 ex_64 => ?_)
        refine lv_istore (lv' := [(4, .int x_64), (6, .ref (zr K (zr K a0 12) y_1.toNatClampNeg)), (5, .int y_1), (0, .ref a0), (1, .ref a1), (2, .int x2), (3, .int x3)]) hx hb dX9_claimBy_31 hl (by decide) rfl (fun ls hl => ?_)
        refine lv_iconst (v := 0) hx hb dX9_claimBy_33 (by decide) ?_
        refine lv_istore (lv' := [(7, .int 0), (4, .int x_64), (6, .ref (zr K (zr K a0 12) y_1.toNatClampNeg)), (5, .int y_1), (0, .ref a0), (1, .ref a1), (2, .int x2), (3, .int x3)]) hx hb dX9_claimBy_34 hl (by decide) rfl (fun ls hl => ?_)
        have L_36_66 : ∀ (n_66 : Nat) (vi_67 : Nat → Nat → Int32) (va_67 : Nat → Nat → Int32) (H : Heap) (locs : List Loc) (y_65 : Int32) (ls : Array Slot), (2147483648 - y_65.toInt).toNat < n_66 → 0 ≤ y_65.toInt → zI K (vi_67, va_67, vg) → va_P D vwCl (zW K (vi_67, va_67, vg)) H → va_S (zA K) s.heap H locs → lv_has ls 8 [(7, .int y_65), (4, .int x_64), (6, .ref (zr K (zr K a0 12) y_1.toNatClampNeg)), (5, .int y_1), (0, .ref a0), (1, .ref a1), (2, .int x2), (3, .int x3)] → W p l e (rmd 5) s m args below meth c H locs 0 0 Q (F0 m 36 ls []) := by
          intro n_66
          induction n_66 with
          | zero => intro vi_67 va_67 H locs y_65 ls hm_66; exact absurd hm_66 (Nat.not_lt_zero _)
          | succ n_66 ih_66 =>
            intro vi_67 va_67 H locs y_65 ls hm_66 iv_67_0 hI hP hS hl
            refine lv_iload hx hb dX9_claimBy_36 (lv_at hl 0 rfl) ?_
            refine lv_aload hx hb dX9_claimBy_38 (lv_at hl 2 rfl) ?_
            refine zg_7_1 C hs hP hf_63.1 hf_63.2 wf_X9_110 dX9_claimBy_40 ?_
            refine bi_ge (tgt := 67) hx hb rfl rfl dX9_claimBy_43 (by decide) (fun c_69 => ?_) (fun c_69 => ?_)
            · skip
              refine lv_aload hx hb dX9_claimBy_67 (lv_at hl 2 rfl) ?_
              refine lv_aload hx hb dX9_claimBy_69 (lv_at hl 2 rfl) ?_
              refine zg_7_1 C hs hP hf_63.1 hf_63.2 wf_X9_110 dX9_claimBy_71 ?_
              refine lv_iconst (v := 0) hx hb dX9_claimBy_74 (by decide) ?_
              refine va_mmin hx hb (hml.trans hl.1.symm) hown (hts _ wm_X9_55) (hts _ wt_Lib_Math_min_name) (hts _ wn_J9) (hts _ wo_min) (by decide) (Nat.le_of_ble_eq_true rfl) (Nat.zero_le _) (Nat.zero_le _) dX9_claimBy_75 ?_
              refine lv_topi (fun x_75 ex_75 => ?_)
              refine kp_7_1 C hO hs hP hS hf_63.1 hf_63.2 wf_X9_110 hI dX9_claimBy_78 (fun vi_76 H locs hI hP hS => ?_)
              obtain ⟨x_77, ex_77⟩ : ∃ y : Int32, y = y_1 + 1 := ⟨_, rfl⟩
              refine lv_iinc (v := x_77) (lv' := [(5, .int x_77), (7, .int y_65), (4, .int x_64), (6, .ref (zr K (zr K a0 12) y_1.toNatClampNeg)), (0, .ref a0), (1, .ref a1), (2, .int x2), (3, .int x3)]) hx hb dX9_claimBy_81 hl (k := 3) rfl (by rw [ex_77]; rfl) (by decide) rfl (fun ls hl => ?_)
              refine lv_goto (tgt := 6) hx hb dX9_claimBy_84 (by decide) ?_
              obtain ⟨f_77, l_77, u_77⟩ := z_add ex_77 rfl ti_1
              have g_78 := z_rng y_2
              have g_79 := z_rng (vi_4 (zr K (zr K a0 12) y_1.toNatClampNeg) 1)
              have f_64 := z_max ex_64 rfl rfl
              have g_80 := z_rng (vi_67 (zr K (zr K a0 12) y_1.toNatClampNeg) 1)
              have g_81 := z_rng y_65
              exact ih_3 vi_76 va_67 _ _ x_77 x_64 _ (by omega) (by omega) hI hP hS (lv_sub hl [0, 2, 4, 5, 6, 7] rfl)
            · skip
              refine lv_aload_n hx hb dX9_claimBy_46 rfl (lv_at hl 4 rfl) ?_
              refine lv_aload hx hb dX9_claimBy_47 (lv_at hl 2 rfl) ?_
              refine lv_iload hx hb dX9_claimBy_49 (lv_at hl 0 rfl) ?_
              refine zcS (zrV (As := [.int y_65]) (b := zr K (zr K a0 12) y_1.toNatClampNeg) (rest := [.ref a0]) C hs hP hS (c_X8_at l D K hO vi_67 va_67 vg hI (zr K (zr K a0 12) y_1.toNatClampNeg) hf_63.1 hf_63.2 y_65) m_X8_at wm_X9_123 (zrecv hs hP hf_63.1 (zF_7 hf_63.2) rfl) ⟨by decide, by decide⟩ hl.1 (Nat.le_of_ble_eq_true rfl) dX9_claimBy_51) (fun x_82 p_82 => ?_)
              refine lv_bipush (v := 6) hx hb dX9_claimBy_54 (by decide) ?_
              refine lv_iload_n hx hb dX9_claimBy_56 rfl (lv_at hl 6 rfl) ?_
              refine lv_iadd hx hb dX9_claimBy_57 ?_
              refine lv_topi (fun x_83 ex_83 => ?_)
              refine zcV (zrV (As := [.int x_82, .int x_83]) (b := a0) (rest := []) C hs hP hS (c_X9_moveTo l D K hO vi_67 va_67 vg hI a0 ha0 hk0 x_82 x_83) m_X9_moveTo wm_X9_127 (zrecv hs hP ha0 (zF_8 hk0) rfl) ⟨by decide, by decide⟩ hl.1 (Nat.le_of_ble_eq_true rfl) dX9_claimBy_58) hS (fun V_84 H locs p_84 hP hS => ?_)
              obtain ⟨vi_84, va_84, vg_84⟩ := V_84
              obtain ⟨hI, hg_84⟩ := p_84
              try dsimp only at hI hg_84
              replace hg_84 := hg_84.symm
              subst hg_84
              obtain ⟨x_85, ex_85⟩ : ∃ y : Int32, y = y_65 + 1 := ⟨_, rfl⟩
              refine lv_iinc (v := x_85) (lv' := [(7, .int x_85), (4, .int x_64), (6, .ref (zr K (zr K a0 12) y_1.toNatClampNeg)), (5, .int y_1), (0, .ref a0), (1, .ref a1), (2, .int x2), (3, .int x3)]) hx hb dX9_claimBy_61 hl (k := 0) rfl (by rw [ex_85]; rfl) (by decide) rfl (fun ls hl => ?_)
              refine lv_goto (tgt := 36) hx hb dX9_claimBy_64 (by decide) ?_
              have g_86 := z_rng y_65
              obtain ⟨f_85, l_85, u_85⟩ := z_add ex_85 rfl ti_1
              have g_87 := z_rng (vi_67 (zr K (zr K a0 12) y_1.toNatClampNeg) 1)
              exact ih_66 vi_84 va_84 _ _ x_85 _ (by omega) (by omega) hI hP hS (lv_sub hl [0, 1, 2, 3, 4, 5, 6, 7] rfl)
        exact L_36_66 _ vi_4 va_4 _ _ 0 _ (Nat.lt_succ_self _) (by simp only [ti_0]; omega) hI hP hS (lv_sub hl [0, 1, 2, 3, 4, 5, 6, 7] rfl)
  exact L_6_3 _ vi va _ _ 0 0 _ (Nat.lt_succ_self _) (by simp only [ti_0, ti_0]; omega) hI hP hS (lv_sub hl [0, 1, 2, 3, 4, 5] rfl)
set_option maxHeartbeats 4000000 in
set_option maxRecDepth 100000 in
theorem c_X9_setTo (l : Launch) (D : va_G) (K : zK) (hO : zOk K) (vi va : Nat → Nat → Int32) (vg : Nat → Nat → Option Nat) (hI : zI K (vi, va, vg)) (a0 : Nat) (ha0 : a0 ∈ zl K) (hk0 : zk K a0 = 8) (a1 : Nat) (ha1 : a1 ∈ zl K) (hk1 : zk K a1 = 8) : Met l yX9_setTo (zc yX9_setTo cX9_setTo 3 none) (rmd 4) (va_Pc [.ref a0, .ref a1] (zB D K (vi, va, vg))) (zQv D K (fun V' => zI K V')) 0 0 (zA K) := by
  refine zin (by decide) (Nat.le_of_ble_eq_true rfl) ?_
  intro p e s m args below meth c ls Q hQ C hr hlk hP hs hl
  have C : CallFix p m c cX9_setTo 3 s args zw RX9 := C
  obtain ⟨hx, hb, hml, hown, hts⟩ := id C
  have hS : va_S (zA K) s.heap s.heap [] := va_S.rf
  have hl : lv_has ls 3 [(0, .ref a0), (1, .ref a1)] := hl
  refine lv_aload_n hx hb dX9_setTo_0 rfl (lv_at hl 0 rfl) ?_
  refine lv_aload_n hx hb dX9_setTo_1 rfl (lv_at hl 1 rfl) ?_
  rcases hg_1 : vg a1 1 with _ | q_1
  · refine zgn_8_1 C hs hP ha1 hk1 wf_X9_64 hg_1 dX9_setTo_2 ?_
    refine kgn_8_1 C hO hs hP hS ha0 hk0 wf_X9_64 hI (fun g h => by cases h) dX9_setTo_5 (fun vg_2 H locs hI hP hS => ?_)
    refine lv_aload_n hx hb dX9_setTo_8 rfl (lv_at hl 0 rfl) ?_
    refine lv_aload_n hx hb dX9_setTo_9 rfl (lv_at hl 1 rfl) ?_
    refine zg_8_2 C hs hP ha1 hk1 wf_X9_61 dX9_setTo_10 ?_
    refine kp_8_2 C hO hs hP hS ha0 hk0 wf_X9_61 hI dX9_setTo_13 (fun vi_3 H locs hI hP hS => ?_)
    refine lv_aload_n hx hb dX9_setTo_16 rfl (lv_at hl 0 rfl) ?_
    refine lv_aload_n hx hb dX9_setTo_17 rfl (lv_at hl 1 rfl) ?_
    refine zg_8_3 C hs hP ha1 hk1 wf_X9_68 dX9_setTo_18 ?_
    refine kp_8_3 C hO hs hP hS ha0 hk0 wf_X9_68 hI dX9_setTo_21 (fun vi_4 H locs hI hP hS => ?_)
    refine lv_aload_n hx hb dX9_setTo_24 rfl (lv_at hl 0 rfl) ?_
    refine lv_aload_n hx hb dX9_setTo_25 rfl (lv_at hl 1 rfl) ?_
    refine zg_8_4 C hs hP ha1 hk1 wf_X9_71 dX9_setTo_26 ?_
    refine kp_8_4 C hO hs hP hS ha0 hk0 wf_X9_71 hI dX9_setTo_29 (fun vi_5 H locs hI hP hS => ?_)
    refine lv_aload_n hx hb dX9_setTo_32 rfl (lv_at hl 1 rfl) ?_
    refine zg_8_5 C hs hP ha1 hk1 wf_X9_9 dX9_setTo_33 ?_
    have hf_6 := hO.r (j := 5) ha1 hk1 (rfl : zX 8 5 = some (20, 60))
    refine lv_aload_n hx hb dX9_setTo_36 rfl (lv_at hl 0 rfl) ?_
    refine zg_8_5 C hs hP ha0 hk0 wf_X9_9 dX9_setTo_37 ?_
    have hf_7 := hO.r (j := 5) ha0 hk0 (rfl : zX 8 5 = some (20, 60))
    refine zcV (zrSN (As := [.ref (zr K a1 5), .ref (zr K a0 5)]) (rest := []) C hs hP hS (c_X11_copy l D K hO vi_5 va vg_2 hI (zr K a1 5) hf_6.1 hf_6.2.1 (zr K a0 5) hf_7.1 hf_7.2.1) m_X11_copy (List.mem_of_getElem? (l := nw_M) (i := 1) rfl) ⟨by decide, by decide⟩ hl.1 (Nat.le_of_ble_eq_true rfl) dX9_setTo_40) hS (fun V_8 H locs p_8 hP hS => ?_)
    obtain ⟨vi_8, va_8, vg_8⟩ := V_8
    obtain ⟨hI, hg_8⟩ := p_8
    try dsimp only at hI hg_8
    replace hg_8 := hg_8.symm
    subst hg_8
    refine lv_aload_n hx hb dX9_setTo_43 rfl (lv_at hl 1 rfl) ?_
    refine zg_8_6 C hs hP ha1 hk1 wf_X9_15 dX9_setTo_44 ?_
    have hf_9 := hO.r (j := 6) ha1 hk1 (rfl : zX 8 6 = some (20, 60))
    refine lv_aload_n hx hb dX9_setTo_47 rfl (lv_at hl 0 rfl) ?_
    refine zg_8_6 C hs hP ha0 hk0 wf_X9_15 dX9_setTo_48 ?_
    have hf_10 := hO.r (j := 6) ha0 hk0 (rfl : zX 8 6 = some (20, 60))
    refine zcV (zrSN (As := [.ref (zr K a1 6), .ref (zr K a0 6)]) (rest := []) C hs hP hS (c_X11_copy l D K hO vi_8 va_8 vg_2 hI (zr K a1 6) hf_9.1 hf_9.2.1 (zr K a0 6) hf_10.1 hf_10.2.1) m_X11_copy (List.mem_of_getElem? (l := nw_M) (i := 1) rfl) ⟨by decide, by decide⟩ hl.1 (Nat.le_of_ble_eq_true rfl) dX9_setTo_51) hS (fun V_11 H locs p_11 hP hS => ?_)
    obtain ⟨vi_11, va_11, vg_11⟩ := V_11
    obtain ⟨hI, hg_11⟩ := p_11
    try dsimp only at hI hg_11
    replace hg_11 := hg_11.symm
    subst hg_11
    refine lv_aload_n hx hb dX9_setTo_54 rfl (lv_at hl 1 rfl) ?_
    refine zg_8_8 C hs hP ha1 hk1 wf_X9_22 dX9_setTo_55 ?_
    have hf_12 := hO.r (j := 8) ha1 hk1 (rfl : zX 8 8 = some (20, 4))
    refine lv_aload_n hx hb dX9_setTo_58 rfl (lv_at hl 0 rfl) ?_
    refine zg_8_8 C hs hP ha0 hk0 wf_X9_22 dX9_setTo_59 ?_
    have hf_13 := hO.r (j := 8) ha0 hk0 (rfl : zX 8 8 = some (20, 4))
    refine zcV (zrSN (As := [.ref (zr K a1 8), .ref (zr K a0 8)]) (rest := []) C hs hP hS (c_X11_copy l D K hO vi_11 va_11 vg_2 hI (zr K a1 8) hf_12.1 hf_12.2.1 (zr K a0 8) hf_13.1 hf_13.2.1) m_X11_copy (List.mem_of_getElem? (l := nw_M) (i := 1) rfl) ⟨by decide, by decide⟩ hl.1 (Nat.le_of_ble_eq_true rfl) dX9_setTo_62) hS (fun V_14 H locs p_14 hP hS => ?_)
    obtain ⟨vi_14, va_14, vg_14⟩ := V_14
    obtain ⟨hI, hg_14⟩ := p_14
    try dsimp only at hI hg_14
    replace hg_14 := hg_14.symm
    subst hg_14
    refine lv_aload_n hx hb dX9_setTo_65 rfl (lv_at hl 0 rfl) ?_
    refine zg_8_9 C hs hP ha0 hk0 wf_X9_30 dX9_setTo_66 ?_
    have hf_15 := hO.r (j := 9) ha0 hk0 (rfl : zX 8 9 = some (7, 0))
    refine lv_aload_n hx hb dX9_setTo_69 rfl (lv_at hl 1 rfl) ?_
    refine zg_8_9 C hs hP ha1 hk1 wf_X9_30 dX9_setTo_70 ?_
    have hf_16 := hO.r (j := 9) ha1 hk1 (rfl : zX 8 9 = some (7, 0))
    refine zcV (zrV (As := [.ref (zr K a1 9)]) (b := zr K a0 9) (rest := []) C hs hP hS (c_X8_setTo l D K hO vi_14 va_14 vg_2 hI (zr K a0 9) hf_15.1 hf_15.2.1 (zr K a1 9) hf_16.1 hf_16.2.1) m_X8_setTo wm_X9_90 (zrecv hs hP hf_15.1 (zF_7 hf_15.2.1) rfl) ⟨by decide, by decide⟩ hl.1 (Nat.le_of_ble_eq_true rfl) dX9_setTo_73) hS (fun V_17 H locs p_17 hP hS => ?_)
    obtain ⟨vi_17, va_17, vg_17⟩ := V_17
    obtain ⟨hI, hg_17⟩ := p_17
    try dsimp only at hI hg_17
    replace hg_17 := hg_17.symm
    subst hg_17
    refine lv_aload_n hx hb dX9_setTo_76 rfl (lv_at hl 0 rfl) ?_
    refine zg_8_10 C hs hP ha0 hk0 wf_X9_34 dX9_setTo_77 ?_
    have hf_18 := hO.r (j := 10) ha0 hk0 (rfl : zX 8 10 = some (7, 0))
    refine lv_aload_n hx hb dX9_setTo_80 rfl (lv_at hl 1 rfl) ?_
    refine zg_8_10 C hs hP ha1 hk1 wf_X9_34 dX9_setTo_81 ?_
    have hf_19 := hO.r (j := 10) ha1 hk1 (rfl : zX 8 10 = some (7, 0))
    refine zcV (zrV (As := [.ref (zr K a1 10)]) (b := zr K a0 10) (rest := []) C hs hP hS (c_X8_setTo l D K hO vi_17 va_17 vg_2 hI (zr K a0 10) hf_18.1 hf_18.2.1 (zr K a1 10) hf_19.1 hf_19.2.1) m_X8_setTo wm_X9_90 (zrecv hs hP hf_18.1 (zF_7 hf_18.2.1) rfl) ⟨by decide, by decide⟩ hl.1 (Nat.le_of_ble_eq_true rfl) dX9_setTo_84) hS (fun V_20 H locs p_20 hP hS => ?_)
    obtain ⟨vi_20, va_20, vg_20⟩ := V_20
    obtain ⟨hI, hg_20⟩ := p_20
    try dsimp only at hI hg_20
    replace hg_20 := hg_20.symm
    subst hg_20
    refine lv_aload_n hx hb dX9_setTo_87 rfl (lv_at hl 0 rfl) ?_
    refine zg_8_11 C hs hP ha0 hk0 wf_X9_37 dX9_setTo_88 ?_
    have hf_21 := hO.r (j := 11) ha0 hk0 (rfl : zX 8 11 = some (7, 0))
    refine lv_aload_n hx hb dX9_setTo_91 rfl (lv_at hl 1 rfl) ?_
    refine zg_8_11 C hs hP ha1 hk1 wf_X9_37 dX9_setTo_92 ?_
    have hf_22 := hO.r (j := 11) ha1 hk1 (rfl : zX 8 11 = some (7, 0))
    refine zcV (zrV (As := [.ref (zr K a1 11)]) (b := zr K a0 11) (rest := []) C hs hP hS (c_X8_setTo l D K hO vi_20 va_20 vg_2 hI (zr K a0 11) hf_21.1 hf_21.2.1 (zr K a1 11) hf_22.1 hf_22.2.1) m_X8_setTo wm_X9_90 (zrecv hs hP hf_21.1 (zF_7 hf_21.2.1) rfl) ⟨by decide, by decide⟩ hl.1 (Nat.le_of_ble_eq_true rfl) dX9_setTo_95) hS (fun V_23 H locs p_23 hP hS => ?_)
    obtain ⟨vi_23, va_23, vg_23⟩ := V_23
    obtain ⟨hI, hg_23⟩ := p_23
    try dsimp only at hI hg_23
    replace hg_23 := hg_23.symm
    subst hg_23
    refine lv_iconst (v := 0) hx hb dX9_setTo_98 (by decide) ?_
    refine lv_istore_n (lv' := [(2, .int 0), (0, .ref a0), (1, .ref a1)]) hx hb dX9_setTo_99 rfl hl (by decide) rfl (fun ls hl => ?_)
    have L_100_25 : ∀ (n_25 : Nat) (vi_26 : Nat → Nat → Int32) (va_26 : Nat → Nat → Int32) (H : Heap) (locs : List Loc) (y_24 : Int32) (ls : Array Slot), (2147483648 - y_24.toInt).toNat < n_25 → 0 ≤ y_24.toInt → zI K (vi_26, va_26, vg_2) → va_P D vwCl (zW K (vi_26, va_26, vg_2)) H → va_S (zA K) s.heap H locs → lv_has ls 3 [(2, .int y_24), (0, .ref a0), (1, .ref a1)] → W p l e (rmd 4) s m args below meth c H locs 0 0 Q (F0 m 100 ls []) := by
      intro n_25
      induction n_25 with
      | zero => intro vi_26 va_26 H locs y_24 ls hm_25; exact absurd hm_25 (Nat.not_lt_zero _)
      | succ n_25 ih_25 =>
        intro vi_26 va_26 H locs y_24 ls hm_25 iv_26_0 hI hP hS hl
        refine lv_iload_n hx hb dX9_setTo_100 rfl (lv_at hl 0 rfl) ?_
        refine lv_iconst (v := 4) hx hb dX9_setTo_101 (by decide) ?_
        refine bi_ge (tgt := 138) hx hb rfl ti_4 dX9_setTo_102 (by decide) (fun c_28 => ?_) (fun c_28 => ?_)
        · skip
          refine lv_aload_n hx hb dX9_setTo_138 rfl (lv_at hl 1 rfl) ?_
          refine zg_8_13 C hs hP ha0 hk0 wf_X9_47 dX9_setTo_139 ?_
          have hf_29 := hO.r (j := 13) ha0 hk0 (rfl : zX 8 13 = some (1, 0))
          refine lv_aload_n hx hb dX9_setTo_142 rfl (lv_at hl 2 rfl) ?_
          refine zg_8_13 C hs hP ha1 hk1 wf_X9_47 dX9_setTo_143 ?_
          have hf_30 := hO.r (j := 13) ha1 hk1 (rfl : zX 8 13 = some (1, 0))
          refine zcV (zrV (As := [.ref (zr K a1 13)]) (b := zr K a0 13) (rest := []) C hs hP hS (c_X1_setTo l D K hO vi_26 va_26 vg_2 hI (zr K a0 13) hf_29.1 hf_29.2.1 (zr K a1 13) hf_30.1 hf_30.2.1) m_X1_setTo wm_X9_94 (zrecv hs hP hf_29.1 (zF_1 hf_29.2.1) rfl) ⟨by decide, by decide⟩ hl.1 (Nat.le_of_ble_eq_true rfl) dX9_setTo_146) hS (fun V_31 H locs p_31 hP hS => ?_)
          obtain ⟨vi_31, va_31, vg_31⟩ := V_31
          obtain ⟨hI, hg_31⟩ := p_31
          try dsimp only at hI hg_31
          replace hg_31 := hg_31.symm
          subst hg_31
          exact zaV hQ hx hb hr hlk hP hS hI dX9_setTo_149
        · skip
          refine lv_aload_n hx hb dX9_setTo_105 rfl (lv_at hl 1 rfl) ?_
          refine zg_8_7 C hs hP ha0 hk0 wf_X9_18 dX9_setTo_106 ?_
          have hf_32 := hO.r (j := 7) ha0 hk0 (rfl : zX 8 7 = some (21, 4))
          refine lv_iload_n hx hb dX9_setTo_109 rfl (lv_at hl 0 rfl) ?_
          refine lv_aload_n hx hb dX9_setTo_110 rfl (lv_at hl 2 rfl) ?_
          refine zg_8_7 C hs hP ha1 hk1 wf_X9_18 dX9_setTo_111 ?_
          have hf_33 := hO.r (j := 7) ha1 hk1 (rfl : zX 8 7 = some (21, 4))
          refine lv_iload_n hx hb dX9_setTo_114 rfl (lv_at hl 0 rfl) ?_
          have g_35 := z_rng y_24
          have hin_34 : vp_in y_24 (zn K (zr K a1 7)) := vp_in_iff.mpr (by rw [(hf_33.2.2 (by decide))]; refine ⟨?_, ?_⟩ <;> omega)
          refine zld_21 C hs hP hf_33.1 hf_33.2.1 hin_34 dX9_setTo_115 ?_
          have hin_36 : vp_in y_24 (zn K (zr K a0 7)) := vp_in_iff.mpr (by rw [(hf_32.2.2 (by decide))]; refine ⟨?_, ?_⟩ <;> omega)
          refine ks_21 C hO hs hP hS hf_32.1 hf_32.2.1 hI hin_36 dX9_setTo_116 (fun va_37 H locs hI hP hS => ?_)
          refine lv_aload_n hx hb dX9_setTo_117 rfl (lv_at hl 1 rfl) ?_
          refine zg_8_12 C hs hP ha0 hk0 wf_X9_40 dX9_setTo_118 ?_
          have hf_38 := hO.r (j := 12) ha0 hk0 (rfl : zX 8 12 = some (23, 4))
          refine lv_iload_n hx hb dX9_setTo_121 rfl (lv_at hl 0 rfl) ?_
          have hin_39 : vp_in y_24 (zn K (zr K a0 12)) := vp_in_iff.mpr (by rw [(hf_38.2.2 (by decide))]; refine ⟨?_, ?_⟩ <;> omega)
          refine zld_23 C hs hP hf_38.1 hf_38.2.1 hin_39 dX9_setTo_122 ?_
          have hf_40 := zel_23 hO hf_38.1 hf_38.2.1 hin_39
          refine lv_aload_n hx hb dX9_setTo_123 rfl (lv_at hl 2 rfl) ?_
          refine zg_8_12 C hs hP ha1 hk1 wf_X9_40 dX9_setTo_124 ?_
          have hf_41 := hO.r (j := 12) ha1 hk1 (rfl : zX 8 12 = some (23, 4))
          refine lv_iload_n hx hb dX9_setTo_127 rfl (lv_at hl 0 rfl) ?_
          have hin_42 : vp_in y_24 (zn K (zr K a1 12)) := vp_in_iff.mpr (by rw [(hf_41.2.2 (by decide))]; refine ⟨?_, ?_⟩ <;> omega)
          refine zld_23 C hs hP hf_41.1 hf_41.2.1 hin_42 dX9_setTo_128 ?_
          have hf_43 := zel_23 hO hf_41.1 hf_41.2.1 hin_42
          refine zcV (zrV (As := [.ref (zr K (zr K a1 12) y_24.toNatClampNeg)]) (b := zr K (zr K a0 12) y_24.toNatClampNeg) (rest := []) C hs hP hS (c_X8_setTo l D K hO vi_26 va_37 vg_2 hI (zr K (zr K a0 12) y_24.toNatClampNeg) hf_40.1 hf_40.2 (zr K (zr K a1 12) y_24.toNatClampNeg) hf_43.1 hf_43.2) m_X8_setTo wm_X9_90 (zrecv hs hP hf_40.1 (zF_7 hf_40.2) rfl) ⟨by decide, by decide⟩ hl.1 (Nat.le_of_ble_eq_true rfl) dX9_setTo_129) hS (fun V_44 H locs p_44 hP hS => ?_)
          obtain ⟨vi_44, va_44, vg_44⟩ := V_44
          obtain ⟨hI, hg_44⟩ := p_44
          try dsimp only at hI hg_44
          replace hg_44 := hg_44.symm
          subst hg_44
          obtain ⟨x_45, ex_45⟩ : ∃ y : Int32, y = y_24 + 1 := ⟨_, rfl⟩
          refine lv_iinc (v := x_45) (lv' := [(2, .int x_45), (0, .ref a0), (1, .ref a1)]) hx hb dX9_setTo_132 hl (k := 0) rfl (by rw [ex_45]; rfl) (by decide) rfl (fun ls hl => ?_)
          refine lv_goto (tgt := 100) hx hb dX9_setTo_135 (by decide) ?_
          obtain ⟨f_45, l_45, u_45⟩ := z_add ex_45 rfl ti_1
          exact ih_25 vi_44 va_44 _ _ x_45 _ (by omega) (by omega) hI hP hS (lv_sub hl [0, 1, 2] rfl)
    exact L_100_25 _ vi_23 va_23 _ _ 0 _ (Nat.lt_succ_self _) (by simp only [ti_0]; omega) hI hP hS (lv_sub hl [0, 1, 2] rfl)
  · have hq_1 := hI.2.2.2.1 _ ha1 hk1 _ hg_1
    refine zgs_8_1 C hs hP ha1 hk1 wf_X9_64 hg_1 dX9_setTo_2 ?_
    refine kgs_8_1 C hO hs hP hS ha0 hk0 wf_X9_64 hI (fun g h => by cases h; exact ⟨hq_1.1, hq_1.2⟩) dX9_setTo_5 (fun vg_46 H locs hI hP hS => ?_)
    refine lv_aload_n hx hb dX9_setTo_8 rfl (lv_at hl 0 rfl) ?_
    refine lv_aload_n hx hb dX9_setTo_9 rfl (lv_at hl 1 rfl) ?_
    refine zg_8_2 C hs hP ha1 hk1 wf_X9_61 dX9_setTo_10 ?_
    refine kp_8_2 C hO hs hP hS ha0 hk0 wf_X9_61 hI dX9_setTo_13 (fun vi_47 H locs hI hP hS => ?_)
    refine lv_aload_n hx hb dX9_setTo_16 rfl (lv_at hl 0 rfl) ?_
    refine lv_aload_n hx hb dX9_setTo_17 rfl (lv_at hl 1 rfl) ?_
    refine zg_8_3 C hs hP ha1 hk1 wf_X9_68 dX9_setTo_18 ?_
    refine kp_8_3 C hO hs hP hS ha0 hk0 wf_X9_68 hI dX9_setTo_21 (fun vi_48 H locs hI hP hS => ?_)
    refine lv_aload_n hx hb dX9_setTo_24 rfl (lv_at hl 0 rfl) ?_
    refine lv_aload_n hx hb dX9_setTo_25 rfl (lv_at hl 1 rfl) ?_
    refine zg_8_4 C hs hP ha1 hk1 wf_X9_71 dX9_setTo_26 ?_
    refine kp_8_4 C hO hs hP hS ha0 hk0 wf_X9_71 hI dX9_setTo_29 (fun vi_49 H locs hI hP hS => ?_)
    refine lv_aload_n hx hb dX9_setTo_32 rfl (lv_at hl 1 rfl) ?_
    refine zg_8_5 C hs hP ha1 hk1 wf_X9_9 dX9_setTo_33 ?_
    have hf_50 := hO.r (j := 5) ha1 hk1 (rfl : zX 8 5 = some (20, 60))
    refine lv_aload_n hx hb dX9_setTo_36 rfl (lv_at hl 0 rfl) ?_
    refine zg_8_5 C hs hP ha0 hk0 wf_X9_9 dX9_setTo_37 ?_
    have hf_51 := hO.r (j := 5) ha0 hk0 (rfl : zX 8 5 = some (20, 60))
    refine zcV (zrSN (As := [.ref (zr K a1 5), .ref (zr K a0 5)]) (rest := []) C hs hP hS (c_X11_copy l D K hO vi_49 va vg_46 hI (zr K a1 5) hf_50.1 hf_50.2.1 (zr K a0 5) hf_51.1 hf_51.2.1) m_X11_copy (List.mem_of_getElem? (l := nw_M) (i := 1) rfl) ⟨by decide, by decide⟩ hl.1 (Nat.le_of_ble_eq_true rfl) dX9_setTo_40) hS (fun V_52 H locs p_52 hP hS => ?_)
    obtain ⟨vi_52, va_52, vg_52⟩ := V_52
    obtain ⟨hI, hg_52⟩ := p_52
    try dsimp only at hI hg_52
    replace hg_52 := hg_52.symm
    subst hg_52
    refine lv_aload_n hx hb dX9_setTo_43 rfl (lv_at hl 1 rfl) ?_
    refine zg_8_6 C hs hP ha1 hk1 wf_X9_15 dX9_setTo_44 ?_
    have hf_53 := hO.r (j := 6) ha1 hk1 (rfl : zX 8 6 = some (20, 60))
    refine lv_aload_n hx hb dX9_setTo_47 rfl (lv_at hl 0 rfl) ?_
    refine zg_8_6 C hs hP ha0 hk0 wf_X9_15 dX9_setTo_48 ?_
    have hf_54 := hO.r (j := 6) ha0 hk0 (rfl : zX 8 6 = some (20, 60))
    refine zcV (zrSN (As := [.ref (zr K a1 6), .ref (zr K a0 6)]) (rest := []) C hs hP hS (c_X11_copy l D K hO vi_52 va_52 vg_46 hI (zr K a1 6) hf_53.1 hf_53.2.1 (zr K a0 6) hf_54.1 hf_54.2.1) m_X11_copy (List.mem_of_getElem? (l := nw_M) (i := 1) rfl) ⟨by decide, by decide⟩ hl.1 (Nat.le_of_ble_eq_true rfl) dX9_setTo_51) hS (fun V_55 H locs p_55 hP hS => ?_)
    obtain ⟨vi_55, va_55, vg_55⟩ := V_55
    obtain ⟨hI, hg_55⟩ := p_55
    try dsimp only at hI hg_55
    replace hg_55 := hg_55.symm
    subst hg_55
    refine lv_aload_n hx hb dX9_setTo_54 rfl (lv_at hl 1 rfl) ?_
    refine zg_8_8 C hs hP ha1 hk1 wf_X9_22 dX9_setTo_55 ?_
    have hf_56 := hO.r (j := 8) ha1 hk1 (rfl : zX 8 8 = some (20, 4))
    refine lv_aload_n hx hb dX9_setTo_58 rfl (lv_at hl 0 rfl) ?_
    refine zg_8_8 C hs hP ha0 hk0 wf_X9_22 dX9_setTo_59 ?_
    have hf_57 := hO.r (j := 8) ha0 hk0 (rfl : zX 8 8 = some (20, 4))
    refine zcV (zrSN (As := [.ref (zr K a1 8), .ref (zr K a0 8)]) (rest := []) C hs hP hS (c_X11_copy l D K hO vi_55 va_55 vg_46 hI (zr K a1 8) hf_56.1 hf_56.2.1 (zr K a0 8) hf_57.1 hf_57.2.1) m_X11_copy (List.mem_of_getElem? (l := nw_M) (i := 1) rfl) ⟨by decide, by decide⟩ hl.1 (Nat.le_of_ble_eq_true rfl) dX9_setTo_62) hS (fun V_58 H locs p_58 hP hS => ?_)
    obtain ⟨vi_58, va_58, vg_58⟩ := V_58
    obtain ⟨hI, hg_58⟩ := p_58
    try dsimp only at hI hg_58
    replace hg_58 := hg_58.symm
    subst hg_58
    refine lv_aload_n hx hb dX9_setTo_65 rfl (lv_at hl 0 rfl) ?_
    refine zg_8_9 C hs hP ha0 hk0 wf_X9_30 dX9_setTo_66 ?_
    have hf_59 := hO.r (j := 9) ha0 hk0 (rfl : zX 8 9 = some (7, 0))
    refine lv_aload_n hx hb dX9_setTo_69 rfl (lv_at hl 1 rfl) ?_
    refine zg_8_9 C hs hP ha1 hk1 wf_X9_30 dX9_setTo_70 ?_
    have hf_60 := hO.r (j := 9) ha1 hk1 (rfl : zX 8 9 = some (7, 0))
    refine zcV (zrV (As := [.ref (zr K a1 9)]) (b := zr K a0 9) (rest := []) C hs hP hS (c_X8_setTo l D K hO vi_58 va_58 vg_46 hI (zr K a0 9) hf_59.1 hf_59.2.1 (zr K a1 9) hf_60.1 hf_60.2.1) m_X8_setTo wm_X9_90 (zrecv hs hP hf_59.1 (zF_7 hf_59.2.1) rfl) ⟨by decide, by decide⟩ hl.1 (Nat.le_of_ble_eq_true rfl) dX9_setTo_73) hS (fun V_61 H locs p_61 hP hS => ?_)
    obtain ⟨vi_61, va_61, vg_61⟩ := V_61
    obtain ⟨hI, hg_61⟩ := p_61
    try dsimp only at hI hg_61
    replace hg_61 := hg_61.symm
    subst hg_61
    refine lv_aload_n hx hb dX9_setTo_76 rfl (lv_at hl 0 rfl) ?_
    refine zg_8_10 C hs hP ha0 hk0 wf_X9_34 dX9_setTo_77 ?_
    have hf_62 := hO.r (j := 10) ha0 hk0 (rfl : zX 8 10 = some (7, 0))
    refine lv_aload_n hx hb dX9_setTo_80 rfl (lv_at hl 1 rfl) ?_
    refine zg_8_10 C hs hP ha1 hk1 wf_X9_34 dX9_setTo_81 ?_
    have hf_63 := hO.r (j := 10) ha1 hk1 (rfl : zX 8 10 = some (7, 0))
    refine zcV (zrV (As := [.ref (zr K a1 10)]) (b := zr K a0 10) (rest := []) C hs hP hS (c_X8_setTo l D K hO vi_61 va_61 vg_46 hI (zr K a0 10) hf_62.1 hf_62.2.1 (zr K a1 10) hf_63.1 hf_63.2.1) m_X8_setTo wm_X9_90 (zrecv hs hP hf_62.1 (zF_7 hf_62.2.1) rfl) ⟨by decide, by decide⟩ hl.1 (Nat.le_of_ble_eq_true rfl) dX9_setTo_84) hS (fun V_64 H locs p_64 hP hS => ?_)
    obtain ⟨vi_64, va_64, vg_64⟩ := V_64
    obtain ⟨hI, hg_64⟩ := p_64
    try dsimp only at hI hg_64
    replace hg_64 := hg_64.symm
    subst hg_64
    refine lv_aload_n hx hb dX9_setTo_87 rfl (lv_at hl 0 rfl) ?_
    refine zg_8_11 C hs hP ha0 hk0 wf_X9_37 dX9_setTo_88 ?_
    have hf_65 := hO.r (j := 11) ha0 hk0 (rfl : zX 8 11 = some (7, 0))
    refine lv_aload_n hx hb dX9_setTo_91 rfl (lv_at hl 1 rfl) ?_
    refine zg_8_11 C hs hP ha1 hk1 wf_X9_37 dX9_setTo_92 ?_
    have hf_66 := hO.r (j := 11) ha1 hk1 (rfl : zX 8 11 = some (7, 0))
    refine zcV (zrV (As := [.ref (zr K a1 11)]) (b := zr K a0 11) (rest := []) C hs hP hS (c_X8_setTo l D K hO vi_64 va_64 vg_46 hI (zr K a0 11) hf_65.1 hf_65.2.1 (zr K a1 11) hf_66.1 hf_66.2.1) m_X8_setTo wm_X9_90 (zrecv hs hP hf_65.1 (zF_7 hf_65.2.1) rfl) ⟨by decide, by decide⟩ hl.1 (Nat.le_of_ble_eq_true rfl) dX9_setTo_95) hS (fun V_67 H locs p_67 hP hS => ?_)
    obtain ⟨vi_67, va_67, vg_67⟩ := V_67
    obtain ⟨hI, hg_67⟩ := p_67
    try dsimp only at hI hg_67
    replace hg_67 := hg_67.symm
    subst hg_67
    refine lv_iconst (v := 0) hx hb dX9_setTo_98 (by decide) ?_
    refine lv_istore_n (lv' := [(2, .int 0), (0, .ref a0), (1, .ref a1)]) hx hb dX9_setTo_99 rfl hl (by decide) rfl (fun ls hl => ?_)
    have L_100_69 : ∀ (n_69 : Nat) (vi_70 : Nat → Nat → Int32) (va_70 : Nat → Nat → Int32) (H : Heap) (locs : List Loc) (y_68 : Int32) (ls : Array Slot), (2147483648 - y_68.toInt).toNat < n_69 → 0 ≤ y_68.toInt → zI K (vi_70, va_70, vg_46) → va_P D vwCl (zW K (vi_70, va_70, vg_46)) H → va_S (zA K) s.heap H locs → lv_has ls 3 [(2, .int y_68), (0, .ref a0), (1, .ref a1)] → W p l e (rmd 4) s m args below meth c H locs 0 0 Q (F0 m 100 ls []) := by
      intro n_69
      induction n_69 with
      | zero => intro vi_70 va_70 H locs y_68 ls hm_69; exact absurd hm_69 (Nat.not_lt_zero _)
      | succ n_69 ih_69 =>
        intro vi_70 va_70 H locs y_68 ls hm_69 iv_70_0 hI hP hS hl
        refine lv_iload_n hx hb dX9_setTo_100 rfl (lv_at hl 0 rfl) ?_
        refine lv_iconst (v := 4) hx hb dX9_setTo_101 (by decide) ?_
        refine bi_ge (tgt := 138) hx hb rfl ti_4 dX9_setTo_102 (by decide) (fun c_72 => ?_) (fun c_72 => ?_)
        · skip
          refine lv_aload_n hx hb dX9_setTo_138 rfl (lv_at hl 1 rfl) ?_
          refine zg_8_13 C hs hP ha0 hk0 wf_X9_47 dX9_setTo_139 ?_
          have hf_73 := hO.r (j := 13) ha0 hk0 (rfl : zX 8 13 = some (1, 0))
          refine lv_aload_n hx hb dX9_setTo_142 rfl (lv_at hl 2 rfl) ?_
          refine zg_8_13 C hs hP ha1 hk1 wf_X9_47 dX9_setTo_143 ?_
          have hf_74 := hO.r (j := 13) ha1 hk1 (rfl : zX 8 13 = some (1, 0))
          refine zcV (zrV (As := [.ref (zr K a1 13)]) (b := zr K a0 13) (rest := []) C hs hP hS (c_X1_setTo l D K hO vi_70 va_70 vg_46 hI (zr K a0 13) hf_73.1 hf_73.2.1 (zr K a1 13) hf_74.1 hf_74.2.1) m_X1_setTo wm_X9_94 (zrecv hs hP hf_73.1 (zF_1 hf_73.2.1) rfl) ⟨by decide, by decide⟩ hl.1 (Nat.le_of_ble_eq_true rfl) dX9_setTo_146) hS (fun V_75 H locs p_75 hP hS => ?_)
          obtain ⟨vi_75, va_75, vg_75⟩ := V_75
          obtain ⟨hI, hg_75⟩ := p_75
          try dsimp only at hI hg_75
          replace hg_75 := hg_75.symm
          subst hg_75
          exact zaV hQ hx hb hr hlk hP hS hI dX9_setTo_149
        · skip
          refine lv_aload_n hx hb dX9_setTo_105 rfl (lv_at hl 1 rfl) ?_
          refine zg_8_7 C hs hP ha0 hk0 wf_X9_18 dX9_setTo_106 ?_
          have hf_76 := hO.r (j := 7) ha0 hk0 (rfl : zX 8 7 = some (21, 4))
          refine lv_iload_n hx hb dX9_setTo_109 rfl (lv_at hl 0 rfl) ?_
          refine lv_aload_n hx hb dX9_setTo_110 rfl (lv_at hl 2 rfl) ?_
          refine zg_8_7 C hs hP ha1 hk1 wf_X9_18 dX9_setTo_111 ?_
          have hf_77 := hO.r (j := 7) ha1 hk1 (rfl : zX 8 7 = some (21, 4))
          refine lv_iload_n hx hb dX9_setTo_114 rfl (lv_at hl 0 rfl) ?_
          have g_79 := z_rng y_68
          have hin_78 : vp_in y_68 (zn K (zr K a1 7)) := vp_in_iff.mpr (by rw [(hf_77.2.2 (by decide))]; refine ⟨?_, ?_⟩ <;> omega)
          refine zld_21 C hs hP hf_77.1 hf_77.2.1 hin_78 dX9_setTo_115 ?_
          have hin_80 : vp_in y_68 (zn K (zr K a0 7)) := vp_in_iff.mpr (by rw [(hf_76.2.2 (by decide))]; refine ⟨?_, ?_⟩ <;> omega)
          refine ks_21 C hO hs hP hS hf_76.1 hf_76.2.1 hI hin_80 dX9_setTo_116 (fun va_81 H locs hI hP hS => ?_)
          refine lv_aload_n hx hb dX9_setTo_117 rfl (lv_at hl 1 rfl) ?_
          refine zg_8_12 C hs hP ha0 hk0 wf_X9_40 dX9_setTo_118 ?_
          have hf_82 := hO.r (j := 12) ha0 hk0 (rfl : zX 8 12 = some (23, 4))
          refine lv_iload_n hx hb dX9_setTo_121 rfl (lv_at hl 0 rfl) ?_
          have hin_83 : vp_in y_68 (zn K (zr K a0 12)) := vp_in_iff.mpr (by rw [(hf_82.2.2 (by decide))]; refine ⟨?_, ?_⟩ <;> omega)
          refine zld_23 C hs hP hf_82.1 hf_82.2.1 hin_83 dX9_setTo_122 ?_
          have hf_84 := zel_23 hO hf_82.1 hf_82.2.1 hin_83
          refine lv_aload_n hx hb dX9_setTo_123 rfl (lv_at hl 2 rfl) ?_
          refine zg_8_12 C hs hP ha1 hk1 wf_X9_40 dX9_setTo_124 ?_
          have hf_85 := hO.r (j := 12) ha1 hk1 (rfl : zX 8 12 = some (23, 4))
          refine lv_iload_n hx hb dX9_setTo_127 rfl (lv_at hl 0 rfl) ?_
          have hin_86 : vp_in y_68 (zn K (zr K a1 12)) := vp_in_iff.mpr (by rw [(hf_85.2.2 (by decide))]; refine ⟨?_, ?_⟩ <;> omega)
          refine zld_23 C hs hP hf_85.1 hf_85.2.1 hin_86 dX9_setTo_128 ?_
          have hf_87 := zel_23 hO hf_85.1 hf_85.2.1 hin_86
          refine zcV (zrV (As := [.ref (zr K (zr K a1 12) y_68.toNatClampNeg)]) (b := zr K (zr K a0 12) y_68.toNatClampNeg) (rest := []) C hs hP hS (c_X8_setTo l D K hO vi_70 va_81 vg_46 hI (zr K (zr K a0 12) y_68.toNatClampNeg) hf_84.1 hf_84.2 (zr K (zr K a1 12) y_68.toNatClampNeg) hf_87.1 hf_87.2) m_X8_setTo wm_X9_90 (zrecv hs hP hf_84.1 (zF_7 hf_84.2) rfl) ⟨by decide, by decide⟩ hl.1 (Nat.le_of_ble_eq_true rfl) dX9_setTo_129) hS (fun V_88 H locs p_88 hP hS => ?_)
          obtain ⟨vi_88, va_88, vg_88⟩ := V_88
          obtain ⟨hI, hg_88⟩ := p_88
          try dsimp only at hI hg_88
          replace hg_88 := hg_88.symm
          subst hg_88
          obtain ⟨x_89, ex_89⟩ : ∃ y : Int32, y = y_68 + 1 := ⟨_, rfl⟩
          refine lv_iinc (v := x_89) (lv' := [(2, .int x_89), (0, .ref a0), (1, .ref a1)]) hx hb dX9_setTo_132 hl (k := 0) rfl (by rw [ex_89]; rfl) (by decide) rfl (fun ls hl => ?_)
          refine lv_goto (tgt := 100) hx hb dX9_setTo_135 (by decide) ?_
          obtain ⟨f_89, l_89, u_89⟩ := z_add ex_89 rfl ti_1
          exact ih_69 vi_88 va_88 _ _ x_89 _ (by omega) (by omega) hI hP hS (lv_sub hl [0, 1, 2] rfl)
    exact L_100_69 _ vi_67 va_67 _ _ 0 _ (Nat.lt_succ_self _) (by simp only [ti_0]; omega) hI hP hS (lv_sub hl [0, 1, 2] rfl)
set_option maxHeartbeats 4000000 in
set_option maxRecDepth 100000 in
theorem c_X9_setUp (l : Launch) (D : va_G) (K : zK) (hO : zOk K) (vi va : Nat → Nat → Int32) (vg : Nat → Nat → Option Nat) (hI : zI K (vi, va, vg)) (a0 : Nat) (ha0 : a0 ∈ zl K) (hk0 : zk K a0 = 8) (x1 : Int32) (a2 : Nat) (ha2 : a2 ∈ zl K) (hk2 : gam K a2) : Met l yX9_setUp (zc yX9_setUp cX9_setUp 4 none) (rmd 3) (va_Pc [.ref a0, .int x1, .ref a2] (zB D K (vi, va, vg))) (zQv D K (fun V' => zI K V')) 0 0 (zA K) := by
  refine zin (by decide) (Nat.le_of_ble_eq_true rfl) ?_
  intro p e s m args below meth c ls Q hQ C hr hlk hP hs hl
  have C : CallFix p m c cX9_setUp 4 s args zw RX9 := C
  obtain ⟨hx, hb, hml, hown, hts⟩ := id C
  have hS : va_S (zA K) s.heap s.heap [] := va_S.rf
  have hl : lv_has ls 4 [(0, .ref a0), (1, .int x1), (2, .ref a2)] := hl
  refine lv_aload_n hx hb dX9_setUp_0 rfl (lv_at hl 0 rfl) ?_
  refine lv_iload_n hx hb dX9_setUp_1 rfl (lv_at hl 1 rfl) ?_
  refine lv_bipush (v := 60) hx hb dX9_setUp_2 (by decide) ?_
  refine va_mmin hx hb (hml.trans hl.1.symm) hown (hts _ wm_X9_55) (hts _ wt_Lib_Math_min_name) (hts _ wn_J9) (hts _ wo_min) (by decide) (Nat.le_of_ble_eq_true rfl) (Nat.zero_le _) (Nat.zero_le _) dX9_setUp_4 ?_
  refine lv_topi (fun x_1 ex_1 => ?_)
  refine kp_8_2 C hO hs hP hS ha0 hk0 wf_X9_61 hI dX9_setUp_7 (fun vi_2 H locs hI hP hS => ?_)
  refine lv_aload_n hx hb dX9_setUp_10 rfl (lv_at hl 0 rfl) ?_
  refine lv_aload_n hx hb dX9_setUp_11 rfl (lv_at hl 2 rfl) ?_
  refine kgs_8_1 C hO hs hP hS ha0 hk0 wf_X9_64 hI (fun g h => by cases h; exact ⟨ha2, hk2⟩) dX9_setUp_12 (fun vg_3 H locs hI hP hS => ?_)
  refine lv_aload_n hx hb dX9_setUp_15 rfl (lv_at hl 0 rfl) ?_
  refine lv_sipush (v := 200) hx hb dX9_setUp_16 (by decide) ?_
  refine kp_8_3 C hO hs hP hS ha0 hk0 wf_X9_68 hI dX9_setUp_19 (fun vi_4 H locs hI hP hS => ?_)
  refine lv_aload_n hx hb dX9_setUp_22 rfl (lv_at hl 0 rfl) ?_
  refine lv_iconst (v := 0) hx hb dX9_setUp_23 (by decide) ?_
  refine kp_8_4 C hO hs hP hS ha0 hk0 wf_X9_71 hI dX9_setUp_24 (fun vi_5 H locs hI hP hS => ?_)
  refine lv_aload_n hx hb dX9_setUp_27 rfl (lv_at hl 0 rfl) ?_
  refine zg_8_8 C hs hP ha0 hk0 wf_X9_22 dX9_setUp_28 ?_
  have hf_6 := hO.r (j := 8) ha0 hk0 (rfl : zX 8 8 = some (20, 4))
  refine lv_iconst (v := 0) hx hb dX9_setUp_31 (by decide) ?_
  refine zcV (zrS (As := [.ref (zr K a0 8), .int 0]) (rest := []) C hs hP hS (c_J7_fill_53178 l D K hO vi_5 va vg_3 hI (zr K a0 8) hf_6.1 hf_6.2.1 0) m_J7_fill_53178 wm_X9_74 ⟨by decide, by decide⟩ hl.1 (Nat.le_of_ble_eq_true rfl) dX9_setUp_32) hS (fun V_7 H locs p_7 hP hS => ?_)
  obtain ⟨vi_7, va_7, vg_7⟩ := V_7
  obtain ⟨hI, hg_7⟩ := p_7
  try dsimp only at hI hg_7
  replace hg_7 := hg_7.symm
  subst hg_7
  refine lv_iconst (v := 0) hx hb dX9_setUp_35 (by decide) ?_
  refine lv_istore_n (lv' := [(3, .int 0), (0, .ref a0), (1, .int x1), (2, .ref a2)]) hx hb dX9_setUp_36 rfl hl (by decide) rfl (fun ls hl => ?_)
  have L_37_9 : ∀ (n_9 : Nat) (va_10 : Nat → Nat → Int32) (H : Heap) (locs : List Loc) (y_8 : Int32) (ls : Array Slot), (2147483648 - y_8.toInt).toNat < n_9 → 0 ≤ y_8.toInt → zI K (vi_7, va_10, vg_3) → va_P D vwCl (zW K (vi_7, va_10, vg_3)) H → va_S (zA K) s.heap H locs → lv_has ls 4 [(3, .int y_8), (0, .ref a0), (1, .int x1), (2, .ref a2)] → W p l e (rmd 3) s m args below meth c H locs 0 0 Q (F0 m 37 ls []) := by
    intro n_9
    induction n_9 with
    | zero => intro va_10 H locs y_8 ls hm_9; exact absurd hm_9 (Nat.not_lt_zero _)
    | succ n_9 ih_9 =>
      intro va_10 H locs y_8 ls hm_9 iv_10_0 hI hP hS hl
      refine lv_iload_n hx hb dX9_setUp_37 rfl (lv_at hl 0 rfl) ?_
      refine lv_bipush (v := 60) hx hb dX9_setUp_38 (by decide) ?_
      refine bi_ge (tgt := 58) hx hb rfl ti_60 dX9_setUp_40 (by decide) (fun c_12 => ?_) (fun c_12 => ?_)
      · skip
        refine lv_iconst (v := 0) hx hb dX9_setUp_58 (by decide) ?_
        refine lv_istore_n (lv' := [(3, .int 0), (0, .ref a0), (1, .int x1), (2, .ref a2)]) hx hb dX9_setUp_59 rfl hl (by decide) rfl (fun ls hl => ?_)
        have L_60_20 : ∀ (n_20 : Nat) (va_21 : Nat → Nat → Int32) (H : Heap) (locs : List Loc) (y_19 : Int32) (ls : Array Slot), (2147483648 - y_19.toInt).toNat < n_20 → 0 ≤ y_19.toInt → zI K (vi_7, va_21, vg_3) → va_P D vwCl (zW K (vi_7, va_21, vg_3)) H → va_S (zA K) s.heap H locs → lv_has ls 4 [(3, .int y_19), (0, .ref a0), (1, .int x1), (2, .ref a2)] → W p l e (rmd 3) s m args below meth c H locs 0 0 Q (F0 m 60 ls []) := by
          intro n_20
          induction n_20 with
          | zero => intro va_21 H locs y_19 ls hm_20; exact absurd hm_20 (Nat.not_lt_zero _)
          | succ n_20 ih_20 =>
            intro va_21 H locs y_19 ls hm_20 iv_21_0 hI hP hS hl
            refine lv_iload_n hx hb dX9_setUp_60 rfl (lv_at hl 0 rfl) ?_
            refine lv_iconst (v := 4) hx hb dX9_setUp_61 (by decide) ?_
            refine bi_ge (tgt := 78) hx hb rfl ti_4 dX9_setUp_62 (by decide) (fun c_23 => ?_) (fun c_23 => ?_)
            · skip
              refine lv_aload_n hx hb dX9_setUp_78 rfl (lv_at hl 1 rfl) ?_
              refine zcV (zrV (As := []) (b := a0) (rest := []) C hs hP hS (c_X9_gatherCards l D K hO vi_7 va_21 vg_3 hI a0 ha0 hk0) m_X9_gatherCards wm_X9_80 (zrecv hs hP ha0 (zF_8 hk0) rfl) ⟨by decide, by decide⟩ hl.1 (Nat.le_of_ble_eq_true rfl) dX9_setUp_79) hS (fun V_24 H locs p_24 hP hS => ?_)
              obtain ⟨vi_24, va_24, vg_24⟩ := V_24
              obtain ⟨hI, hg_24⟩ := p_24
              try dsimp only at hI hg_24
              replace hg_24 := hg_24.symm
              subst hg_24
              refine lv_aload_n hx hb dX9_setUp_82 rfl (lv_at hl 1 rfl) ?_
              refine zg_8_13 C hs hP ha0 hk0 wf_X9_47 dX9_setUp_83 ?_
              have hf_25 := hO.r (j := 13) ha0 hk0 (rfl : zX 8 13 = some (1, 0))
              refine zcV (zrV (As := []) (b := zr K a0 13) (rest := []) C hs hP hS (c_X1_clear l D K hO vi_24 va_24 vg_3 hI (zr K a0 13) hf_25.1 hf_25.2.1) m_X1_clear wm_X9_83 (zrecv hs hP hf_25.1 (zF_1 hf_25.2.1) rfl) ⟨by decide, by decide⟩ hl.1 (Nat.le_of_ble_eq_true rfl) dX9_setUp_86) hS (fun V_26 H locs p_26 hP hS => ?_)
              obtain ⟨vi_26, va_26, vg_26⟩ := V_26
              obtain ⟨hI, hg_26⟩ := p_26
              try dsimp only at hI hg_26
              replace hg_26 := hg_26.symm
              subst hg_26
              exact zaV hQ hx hb hr hlk hP hS hI dX9_setUp_89
            · skip
              refine lv_aload_n hx hb dX9_setUp_65 rfl (lv_at hl 1 rfl) ?_
              refine zg_8_7 C hs hP ha0 hk0 wf_X9_18 dX9_setUp_66 ?_
              have hf_27 := hO.r (j := 7) ha0 hk0 (rfl : zX 8 7 = some (21, 4))
              refine lv_iload_n hx hb dX9_setUp_69 rfl (lv_at hl 0 rfl) ?_
              refine lv_iconst (v := 1) hx hb dX9_setUp_70 (by decide) ?_
              have g_29 := z_rng y_19
              have hin_28 : vp_in y_19 (zn K (zr K a0 7)) := vp_in_iff.mpr (by rw [(hf_27.2.2 (by decide))]; refine ⟨?_, ?_⟩ <;> omega)
              refine ks_21 C hO hs hP hS hf_27.1 hf_27.2.1 hI hin_28 dX9_setUp_71 (fun va_30 H locs hI hP hS => ?_)
              obtain ⟨x_31, ex_31⟩ : ∃ y : Int32, y = y_19 + 1 := ⟨_, rfl⟩
              refine lv_iinc (v := x_31) (lv' := [(3, .int x_31), (0, .ref a0), (1, .int x1), (2, .ref a2)]) hx hb dX9_setUp_72 hl (k := 0) rfl (by rw [ex_31]; rfl) (by decide) rfl (fun ls hl => ?_)
              refine lv_goto (tgt := 60) hx hb dX9_setUp_75 (by decide) ?_
              obtain ⟨f_31, l_31, u_31⟩ := z_add ex_31 rfl ti_1
              exact ih_20 va_30 _ _ x_31 _ (by omega) (by omega) hI hP hS (lv_sub hl [0, 1, 2, 3] rfl)
        have g_32 := z_rng y_8
        exact L_60_20 _ va_10 _ _ 0 _ (Nat.lt_succ_self _) (by simp only [ti_0]; omega) hI hP hS (lv_sub hl [0, 1, 2, 3] rfl)
      · skip
        refine lv_aload_n hx hb dX9_setUp_43 rfl (lv_at hl 1 rfl) ?_
        refine zg_8_5 C hs hP ha0 hk0 wf_X9_9 dX9_setUp_44 ?_
        have hf_33 := hO.r (j := 5) ha0 hk0 (rfl : zX 8 5 = some (20, 60))
        refine lv_iload_n hx hb dX9_setUp_47 rfl (lv_at hl 0 rfl) ?_
        refine lv_iload_n hx hb dX9_setUp_48 rfl (lv_at hl 0 rfl) ?_
        refine lv_iconst (v := 3) hx hb dX9_setUp_49 (by decide) ?_
        refine lv_iand hx hb dX9_setUp_50 ?_
        refine lv_topi (fun x_34 ex_34 => ?_)
        have g_36 := z_rng y_8
        have hin_35 : vp_in y_8 (zn K (zr K a0 5)) := vp_in_iff.mpr (by rw [(hf_33.2.2 (by decide))]; refine ⟨?_, ?_⟩ <;> omega)
        refine ks_20 C hO hs hP hS hf_33.1 hf_33.2.1 hI hin_35 dX9_setUp_51 (fun va_37 H locs hI hP hS => ?_)
        obtain ⟨x_38, ex_38⟩ : ∃ y : Int32, y = y_8 + 1 := ⟨_, rfl⟩
        refine lv_iinc (v := x_38) (lv' := [(3, .int x_38), (0, .ref a0), (1, .int x1), (2, .ref a2)]) hx hb dX9_setUp_52 hl (k := 0) rfl (by rw [ex_38]; rfl) (by decide) rfl (fun ls hl => ?_)
        refine lv_goto (tgt := 37) hx hb dX9_setUp_55 (by decide) ?_
        obtain ⟨f_38, l_38, u_38⟩ := z_add ex_38 rfl ti_1
        exact ih_9 va_37 _ _ x_38 _ (by omega) (by omega) hI hP hS (lv_sub hl [0, 1, 2, 3] rfl)
  exact L_37_9 _ va_7 _ _ 0 _ (Nat.lt_succ_self _) (by simp only [ti_0]; omega) hI hP hS (lv_sub hl [0, 1, 2, 3] rfl)
