set_option maxHeartbeats 4000000 in
set_option maxRecDepth 100000 in
theorem c_X3_size (l : Launch) (D : va_G) (K : zK) (hO : zOk K) (vi va : Nat → Nat → Int32) (vg : Nat → Nat → Option Nat) (hI : zI K (vi, va, vg)) (a0 : Nat) (ha0 : a0 ∈ zl K) (hk0 : fol K a0) (a1 : Nat) (ha1 : a1 ∈ zl K) (hk1 : zk K a1 = 5) (x2 : Int32) : Met l yX3_size (zc yX3_size cX3_size 3 (some .int)) (rmd 1) (va_Pc [.ref a0, .ref a1, .int x2] (zB D K (vi, va, vg))) (zQi D K (fun r V' => zI K V' ∧ V'.2.2 = vg)) 0 0 (zA K) := by
  refine zin (by decide) (Nat.le_of_ble_eq_true rfl) ?_
  intro p e s m args below meth c ls Q hQ C hr hlk hP hs hl
  have C : CallFix p m c cX3_size 3 s args zw RX3 := C
  obtain ⟨hx, hb, hml, hown, hts⟩ := id C
  have hS : va_S (zA K) s.heap s.heap [] := va_S.rf
  have hl : lv_has ls 3 [(0, .ref a0), (1, .ref a1), (2, .int x2)] := hl
  refine lv_aload_n hx hb dX3_size_0 rfl (lv_at hl 1 rfl) ?_
  refine lv_bipush (v := 11) hx hb dX3_size_1 (by decide) ?_
  refine zcV (zrV (As := [.int 11]) (b := a1) (rest := []) C hs hP hS (c_X6_body l D K hO vi va vg hI a1 ha1 hk1 11) m_X6_body wm_X3_9 (zrecv hs hP ha1 (zF_5 hk1) rfl) ⟨by decide, by decide⟩ hl.1 (Nat.le_of_ble_eq_true rfl) dX3_size_3) hS (fun V_1 H locs p_1 hP hS => ?_)
  obtain ⟨vi_1, va_1, vg_1⟩ := V_1
  obtain ⟨hI, hg_1⟩ := p_1
  try dsimp only at hI hg_1
  replace hg_1 := hg_1.symm
  subst hg_1
  refine lv_iload_n hx hb dX3_size_6 rfl (lv_at hl 2 rfl) ?_
  refine lv_iconst (v := 4) hx hb dX3_size_7 (by decide) ?_
  refine lv_idiv hx hb dX3_size_8 (by decide) ?_
  refine lv_topi (fun x_2 ex_2 => ?_)
  exact zaI hQ hx hb hr hlk hP hS ⟨hI, rfl⟩ dX3_size_9
set_option maxHeartbeats 4000000 in
set_option maxRecDepth 100000 in
theorem c_X7_size (l : Launch) (D : va_G) (K : zK) (hO : zOk K) (vi va : Nat → Nat → Int32) (vg : Nat → Nat → Option Nat) (hI : zI K (vi, va, vg)) (a0 : Nat) (ha0 : a0 ∈ zl K) (hk0 : zk K a0 = 6) (a1 : Nat) (ha1 : a1 ∈ zl K) (hk1 : zk K a1 = 5) (x2 : Int32) : Met l yX7_size (zc yX7_size cX7_size 3 (some .int)) (rmd 1) (va_Pc [.ref a0, .ref a1, .int x2] (zB D K (vi, va, vg))) (zQi D K (fun r V' => zI K V' ∧ V'.2.2 = vg)) 0 0 (zA K) := by
  refine zin (by decide) (Nat.le_of_ble_eq_true rfl) ?_
  intro p e s m args below meth c ls Q hQ C hr hlk hP hs hl
  have C : CallFix p m c cX7_size 3 s args zw RX7 := C
  obtain ⟨hx, hb, hml, hown, hts⟩ := id C
  have hS : va_S (zA K) s.heap s.heap [] := va_S.rf
  have hl : lv_has ls 3 [(0, .ref a0), (1, .ref a1), (2, .int x2)] := hl
  refine lv_aload_n hx hb dX7_size_0 rfl (lv_at hl 1 rfl) ?_
  refine lv_bipush (v := 12) hx hb dX7_size_1 (by decide) ?_
  refine zcV (zrV (As := [.int 12]) (b := a1) (rest := []) C hs hP hS (c_X6_body l D K hO vi va vg hI a1 ha1 hk1 12) m_X6_body wm_X7_18 (zrecv hs hP ha1 (zF_5 hk1) rfl) ⟨by decide, by decide⟩ hl.1 (Nat.le_of_ble_eq_true rfl) dX7_size_3) hS (fun V_1 H locs p_1 hP hS => ?_)
  obtain ⟨vi_1, va_1, vg_1⟩ := V_1
  obtain ⟨hI, hg_1⟩ := p_1
  try dsimp only at hI hg_1
  replace hg_1 := hg_1.symm
  subst hg_1
  refine lv_iconst (v := 1) hx hb dX7_size_6 (by decide) ?_
  refine lv_iload_n hx hb dX7_size_7 rfl (lv_at hl 2 rfl) ?_
  refine lv_bipush (v := 8) hx hb dX7_size_8 (by decide) ?_
  refine lv_idiv hx hb dX7_size_10 (by decide) ?_
  refine lv_topi (fun x_2 ex_2 => ?_)
  refine va_mmax hx hb (hml.trans hl.1.symm) hown (hts _ wm_X7_23) (hts _ wt_Lib_Math_max_name) (hts _ wn_J9) (hts _ wo_max) (by decide) (Nat.le_of_ble_eq_true rfl) (Nat.zero_le _) (Nat.zero_le _) dX7_size_11 ?_
  refine lv_topi (fun x_3 ex_3 => ?_)
  exact zaI hQ hx hb hr hlk hP hS ⟨hI, rfl⟩ dX7_size_14
set_option maxHeartbeats 4000000 in
set_option maxRecDepth 100000 in
theorem c_X3_allows (l : Launch) (D : va_G) (K : zK) (hO : zOk K) (vi va : Nat → Nat → Int32) (vg : Nat → Nat → Option Nat) (hI : zI K (vi, va, vg)) (a0 : Nat) (ha0 : a0 ∈ zl K) (hk0 : fol K a0) (a1 : Nat) (ha1 : a1 ∈ zl K) (hk1 : zk K a1 = 5) (a2 : Nat) (ha2 : a2 ∈ zl K) (hk2 : zk K a2 = 8) (a3 : Nat) (ha3 : a3 ∈ zl K) (hk3 : zk K a3 = 7) (a4 : Nat) (ha4 : a4 ∈ zl K) (hk4 : zk K a4 = 7) (x5 : Int32) : Met l yX3_allows (zc yX3_allows cX3_allows 9 (some .int)) (rmd 1) (va_Pc [.ref a0, .ref a1, .ref a2, .ref a3, .ref a4, .int x5] (zB D K (vi, va, vg))) (zQi D K (fun r V' => zI K V' ∧ V'.2.2 = vg)) 0 0 (zA K) := by
  refine zin (by decide) (Nat.le_of_ble_eq_true rfl) ?_
  intro p e s m args below meth c ls Q hQ C hr hlk hP hs hl
  have C : CallFix p m c cX3_allows 9 s args zw RX3 := C
  obtain ⟨hx, hb, hml, hown, hts⟩ := id C
  have hS : va_S (zA K) s.heap s.heap [] := va_S.rf
  have hl : lv_has ls 9 [(0, .ref a0), (1, .ref a1), (2, .ref a2), (3, .ref a3), (4, .ref a4), (5, .int x5)] := hl
  refine lv_aload_n hx hb dX3_allows_0 rfl (lv_at hl 1 rfl) ?_
  refine lv_bipush (v := 21) hx hb dX3_allows_1 (by decide) ?_
  refine zcV (zrV (As := [.int 21]) (b := a1) (rest := []) C hs hP hS (c_X6_body l D K hO vi va vg hI a1 ha1 hk1 21) m_X6_body wm_X3_9 (zrecv hs hP ha1 (zF_5 hk1) rfl) ⟨by decide, by decide⟩ hl.1 (Nat.le_of_ble_eq_true rfl) dX3_allows_3) hS (fun V_1 H locs p_1 hP hS => ?_)
  obtain ⟨vi_1, va_1, vg_1⟩ := V_1
  obtain ⟨hI, hg_1⟩ := p_1
  try dsimp only at hI hg_1
  replace hg_1 := hg_1.symm
  subst hg_1
  refine lv_aload_n hx hb dX3_allows_6 rfl (lv_at hl 2 rfl) ?_
  refine lv_aload hx hb dX3_allows_7 (lv_at hl 4 rfl) ?_
  refine lv_iconst (v := 0) hx hb dX3_allows_9 (by decide) ?_
  refine zcS (zrV (As := [.int 0]) (b := a4) (rest := [.ref a2]) C hs hP hS (c_X8_at l D K hO vi_1 va_1 vg hI a4 ha4 hk4 0) m_X8_at wm_X3_14 (zrecv hs hP ha4 (zF_7 hk4) rfl) ⟨by decide, by decide⟩ hl.1 (Nat.le_of_ble_eq_true rfl) dX3_allows_10) (fun x_2 p_2 => ?_)
  refine zcS (zrV (As := [.int x_2]) (b := a2) (rest := []) C hs hP hS (c_X9_colourOf l D K hO vi_1 va_1 vg hI a2 ha2 hk2 x_2) m_X9_colourOf wm_X3_20 (zrecv hs hP ha2 (zF_8 hk2) rfl) ⟨by decide, by decide⟩ hl.1 (Nat.le_of_ble_eq_true rfl) dX3_allows_13) (fun x_3 p_3 => ?_)
  refine lv_istore (lv' := [(6, .int x_3), (0, .ref a0), (1, .ref a1), (2, .ref a2), (3, .ref a3), (4, .ref a4), (5, .int x5)]) hx hb dX3_allows_16 hl (by decide) rfl (fun ls hl => ?_)
  refine lv_aload_n hx hb dX3_allows_18 rfl (lv_at hl 3 rfl) ?_
  refine lv_iload hx hb dX3_allows_19 (lv_at hl 6 rfl) ?_
  refine zcS (zrV (As := [.int x5]) (b := a2) (rest := []) C hs hP hS (c_X9_colourOf l D K hO vi_1 va_1 vg hI a2 ha2 hk2 x5) m_X9_colourOf wm_X3_20 (zrecv hs hP ha2 (zF_8 hk2) rfl) ⟨by decide, by decide⟩ hl.1 (Nat.le_of_ble_eq_true rfl) dX3_allows_21) (fun x_4 p_4 => ?_)
  refine lv_istore (lv' := [(7, .int x_4), (6, .int x_3), (0, .ref a0), (1, .ref a1), (2, .ref a2), (3, .ref a3), (4, .ref a4), (5, .int x5)]) hx hb dX3_allows_24 hl (by decide) rfl (fun ls hl => ?_)
  refine lv_iload hx hb dX3_allows_26 (lv_at hl 0 rfl) ?_
  refine lv_iconst (v := 5) hx hb dX3_allows_28 (by decide) ?_
  have J_58_10 : ∀ (y_9 : Int32) (ls : Array Slot), (y_9 = 0 ∨ y_9 = 1) → lv_has ls 9 [(0, .ref a0), (1, .ref a1), (2, .ref a2), (3, .ref a3), (4, .ref a4), (5, .int x5), (6, .int x_3), (7, .int x_4)] → W p l e (rmd 1) s m args below meth c H locs 0 0 Q (F0 m 58 ls [.int y_9]) := by
    intro y_9 ls hb_y_9 hl
    refine lv_istore (lv' := [(8, .int y_9), (0, .ref a0), (1, .ref a1), (2, .ref a2), (3, .ref a3), (4, .ref a4), (5, .int x5), (6, .int x_3), (7, .int x_4)]) hx hb dX3_allows_58 hl (by decide) rfl (fun ls hl => ?_)
    refine lv_iload hx hb dX3_allows_60 (lv_at hl 0 rfl) ?_
    refine bz_ne (tgt := 76) hx hb rfl dX3_allows_62 (by decide) (fun c_12 => ?_) (fun c_12 => ?_)
    · skip
      refine lv_iconst (v := 0) hx hb dX3_allows_76 (by decide) ?_
      refine lv_goto (tgt := 81) hx hb dX3_allows_77 (by decide) ?_
      exact zaI hQ hx hb hr hlk hP hS ⟨hI, rfl⟩ dX3_allows_81
    · skip
      refine lv_aload_n hx hb dX3_allows_65 rfl (lv_at hl 3 rfl) ?_
      refine lv_aload_n hx hb dX3_allows_66 rfl (lv_at hl 4 rfl) ?_
      refine lv_iload hx hb dX3_allows_67 (lv_at hl 7 rfl) ?_
      refine zcS (zrV (As := [.ref a3, .int x_3]) (b := a2) (rest := []) C hs hP hS (c_X9_firstOf l D K hO vi_1 va_1 vg hI a2 ha2 hk2 a3 ha3 hk3 x_3) m_X9_firstOf wm_X3_29 (zrecv hs hP ha2 (zF_8 hk2) rfl) ⟨by decide, by decide⟩ hl.1 (Nat.le_of_ble_eq_true rfl) dX3_allows_69) (fun x_13 p_13 => ?_)
      refine lv_iconst (v := (-1)) hx hb dX3_allows_72 (by decide) ?_
      refine bi_ne (tgt := 80) hx hb rfl ti_m1 dX3_allows_73 (by decide) (fun c_14 => ?_) (fun c_14 => ?_)
      · skip
        refine lv_iconst (v := 1) hx hb dX3_allows_80 (by decide) ?_
        exact zaI hQ hx hb hr hlk hP hS ⟨hI, rfl⟩ dX3_allows_81
      · skip
        refine lv_iconst (v := 0) hx hb dX3_allows_76 (by decide) ?_
        refine lv_goto (tgt := 81) hx hb dX3_allows_77 (by decide) ?_
        exact zaI hQ hx hb hr hlk hP hS ⟨hI, rfl⟩ dX3_allows_81
  refine bi_eq (tgt := 53) hx hb rfl ti_5 dX3_allows_29 (by decide) (fun c_5 => ?_) (fun c_5 => ?_)
  · skip
    refine lv_iconst (v := 1) hx hb dX3_allows_53 (by decide) ?_
    refine lv_goto (tgt := 58) hx hb dX3_allows_54 (by decide) ?_
    exact J_58_10 1 _ (Or.inr rfl) (lv_sub hl [2, 3, 4, 5, 6, 7, 1, 0] rfl)
  · skip
    refine lv_aload hx hb dX3_allows_32 (lv_at hl 6 rfl) ?_
    refine zg_7_1 C hs hP ha4 hk4 wf_X3_25 dX3_allows_34 ?_
    refine bz_eq (tgt := 53) hx hb rfl dX3_allows_37 (by decide) (fun c_15 => ?_) (fun c_15 => ?_)
    · skip
      refine lv_iconst (v := 1) hx hb dX3_allows_53 (by decide) ?_
      refine lv_goto (tgt := 58) hx hb dX3_allows_54 (by decide) ?_
      exact J_58_10 1 _ (Or.inr rfl) (lv_sub hl [2, 3, 4, 5, 6, 7, 1, 0] rfl)
    · skip
      refine lv_iload hx hb dX3_allows_40 (lv_at hl 1 rfl) ?_
      refine lv_iconst (v := 5) hx hb dX3_allows_42 (by decide) ?_
      refine bi_eq (tgt := 53) hx hb rfl ti_5 dX3_allows_43 (by decide) (fun c_16 => ?_) (fun c_16 => ?_)
      · skip
        refine lv_iconst (v := 1) hx hb dX3_allows_53 (by decide) ?_
        refine lv_goto (tgt := 58) hx hb dX3_allows_54 (by decide) ?_
        exact J_58_10 1 _ (Or.inr rfl) (lv_sub hl [2, 3, 4, 5, 6, 7, 1, 0] rfl)
      · skip
        refine lv_iload hx hb dX3_allows_46 (lv_at hl 0 rfl) ?_
        refine lv_iload hx hb dX3_allows_48 (lv_at hl 1 rfl) ?_
        refine bi_ne (tgt := 57) hx hb rfl rfl dX3_allows_50 (by decide) (fun c_17 => ?_) (fun c_17 => ?_)
        · skip
          refine lv_iconst (v := 0) hx hb dX3_allows_57 (by decide) ?_
          exact J_58_10 0 _ (Or.inl rfl) (lv_sub hl [2, 3, 4, 5, 6, 7, 1, 0] rfl)
        · skip
          refine lv_iconst (v := 1) hx hb dX3_allows_53 (by decide) ?_
          refine lv_goto (tgt := 58) hx hb dX3_allows_54 (by decide) ?_
          exact J_58_10 1 _ (Or.inr rfl) (lv_sub hl [2, 3, 4, 5, 6, 7, 1, 0] rfl)
set_option maxHeartbeats 4000000 in
set_option maxRecDepth 100000 in
theorem c_X5_allows (l : Launch) (D : va_G) (K : zK) (hO : zOk K) (vi va : Nat → Nat → Int32) (vg : Nat → Nat → Option Nat) (hI : zI K (vi, va, vg)) (a0 : Nat) (ha0 : a0 ∈ zl K) (hk0 : fol K a0) (a1 : Nat) (ha1 : a1 ∈ zl K) (hk1 : zk K a1 = 5) (a2 : Nat) (ha2 : a2 ∈ zl K) (hk2 : zk K a2 = 8) (a3 : Nat) (ha3 : a3 ∈ zl K) (hk3 : zk K a3 = 7) (a4 : Nat) (ha4 : a4 ∈ zl K) (hk4 : zk K a4 = 7) (x5 : Int32) : Met l yX5_allows (zc yX5_allows cX5_allows 10 (some .int)) (rmd 2) (va_Pc [.ref a0, .ref a1, .ref a2, .ref a3, .ref a4, .int x5] (zB D K (vi, va, vg))) (zQi D K (fun r V' => zI K V' ∧ V'.2.2 = vg)) 0 0 (zA K) := by
  refine zin (by decide) (Nat.le_of_ble_eq_true rfl) ?_
  intro p e s m args below meth c ls Q hQ C hr hlk hP hs hl
  have C : CallFix p m c cX5_allows 10 s args zw RX5 := C
  obtain ⟨hx, hb, hml, hown, hts⟩ := id C
  have hS : va_S (zA K) s.heap s.heap [] := va_S.rf
  have hl : lv_has ls 10 [(0, .ref a0), (1, .ref a1), (2, .ref a2), (3, .ref a3), (4, .ref a4), (5, .int x5)] := hl
  refine lv_aload_n hx hb dX5_allows_0 rfl (lv_at hl 1 rfl) ?_
  refine lv_bipush (v := 22) hx hb dX5_allows_1 (by decide) ?_
  refine zcV (zrV (As := [.int 22]) (b := a1) (rest := []) C hs hP hS (c_X6_body l D K hO vi va vg hI a1 ha1 hk1 22) m_X6_body wm_X5_9 (zrecv hs hP ha1 (zF_5 hk1) rfl) ⟨by decide, by decide⟩ hl.1 (Nat.le_of_ble_eq_true rfl) dX5_allows_3) hS (fun V_1 H locs p_1 hP hS => ?_)
  obtain ⟨vi_1, va_1, vg_1⟩ := V_1
  obtain ⟨hI, hg_1⟩ := p_1
  try dsimp only at hI hg_1
  replace hg_1 := hg_1.symm
  subst hg_1
  refine lv_aload_n hx hb dX5_allows_6 rfl (lv_at hl 0 rfl) ?_
  refine lv_aload_n hx hb dX5_allows_7 rfl (lv_at hl 1 rfl) ?_
  refine lv_aload_n hx hb dX5_allows_8 rfl (lv_at hl 2 rfl) ?_
  refine lv_aload_n hx hb dX5_allows_9 rfl (lv_at hl 3 rfl) ?_
  refine lv_aload hx hb dX5_allows_10 (lv_at hl 4 rfl) ?_
  refine lv_iload hx hb dX5_allows_12 (lv_at hl 5 rfl) ?_
  refine zcI (zrSU (As := [.ref a1, .ref a2, .ref a3, .ref a4, .int x5]) (b := a0) (rest := []) C hs hP hS (c_X3_allows l D K hO vi_1 va_1 vg hI a0 ha0 hk0 a1 ha1 hk1 a2 ha2 hk2 a3 ha3 hk3 a4 ha4 hk4 x5) m0_X3_allows wi_X3_allows wm_X5_14 wq_X3_X3_allows wu_X5_X3 (Or.inl rfl) ⟨rfl, rfl⟩ (by decide) (zrecvF hs hP ha0 hk0) ⟨by decide, by decide⟩ hl.1 (Nat.le_of_ble_eq_true rfl) dX5_allows_14) hS (fun x_2 V_2 H locs p_2 hP hS => ?_)
  obtain ⟨vi_2, va_2, vg_2⟩ := V_2
  obtain ⟨hI, hg_2⟩ := p_2
  try dsimp only at hI hg_2
  replace hg_2 := hg_2.symm
  subst hg_2
  refine lv_istore (lv' := [(6, .int x_2), (0, .ref a0), (1, .ref a1), (2, .ref a2), (3, .ref a3), (4, .ref a4), (5, .int x5)]) hx hb dX5_allows_17 hl (by decide) rfl (fun ls hl => ?_)
  refine lv_aload_n hx hb dX5_allows_19 rfl (lv_at hl 3 rfl) ?_
  refine lv_aload hx hb dX5_allows_20 (lv_at hl 5 rfl) ?_
  refine lv_iconst (v := 0) hx hb dX5_allows_22 (by decide) ?_
  refine zcS (zrV (As := [.int 0]) (b := a4) (rest := [.ref a2]) C hs hP hS (c_X8_at l D K hO vi_2 va_2 vg hI a4 ha4 hk4 0) m_X8_at wm_X5_18 (zrecv hs hP ha4 (zF_7 hk4) rfl) ⟨by decide, by decide⟩ hl.1 (Nat.le_of_ble_eq_true rfl) dX5_allows_23) (fun x_3 p_3 => ?_)
  refine zcS (zrV (As := [.int x_3]) (b := a2) (rest := []) C hs hP hS (c_X9_colourOf l D K hO vi_2 va_2 vg hI a2 ha2 hk2 x_3) m_X9_colourOf wm_X5_24 (zrecv hs hP ha2 (zF_8 hk2) rfl) ⟨by decide, by decide⟩ hl.1 (Nat.le_of_ble_eq_true rfl) dX5_allows_26) (fun x_4 p_4 => ?_)
  refine lv_istore (lv' := [(7, .int x_4), (6, .int x_2), (0, .ref a0), (1, .ref a1), (2, .ref a2), (3, .ref a3), (4, .ref a4), (5, .int x5)]) hx hb dX5_allows_29 hl (by decide) rfl (fun ls hl => ?_)
  refine lv_aload_n hx hb dX5_allows_31 rfl (lv_at hl 4 rfl) ?_
  refine lv_iload hx hb dX5_allows_32 (lv_at hl 7 rfl) ?_
  refine zcS (zrV (As := [.int x5]) (b := a2) (rest := []) C hs hP hS (c_X9_colourOf l D K hO vi_2 va_2 vg hI a2 ha2 hk2 x5) m_X9_colourOf wm_X5_24 (zrecv hs hP ha2 (zF_8 hk2) rfl) ⟨by decide, by decide⟩ hl.1 (Nat.le_of_ble_eq_true rfl) dX5_allows_34) (fun x_5 p_5 => ?_)
  refine lv_istore (lv' := [(8, .int x_5), (7, .int x_4), (6, .int x_2), (0, .ref a0), (1, .ref a1), (2, .ref a2), (3, .ref a3), (4, .ref a4), (5, .int x5)]) hx hb dX5_allows_37 hl (by decide) rfl (fun ls hl => ?_)
  refine lv_iload hx hb dX5_allows_39 (lv_at hl 0 rfl) ?_
  refine lv_iconst (v := 5) hx hb dX5_allows_41 (by decide) ?_
  have J_70_11 : ∀ (y_10 : Int32) (ls : Array Slot), (y_10 = 0 ∨ y_10 = 1) → lv_has ls 10 [(0, .ref a0), (1, .ref a1), (2, .ref a2), (3, .ref a3), (4, .ref a4), (5, .int x5), (6, .int x_2), (7, .int x_4), (8, .int x_5)] → W p l e (rmd 2) s m args below meth c H locs 0 0 Q (F0 m 70 ls [.int y_10]) := by
    intro y_10 ls hb_y_10 hl
    refine lv_istore (lv' := [(9, .int y_10), (0, .ref a0), (1, .ref a1), (2, .ref a2), (3, .ref a3), (4, .ref a4), (5, .int x5), (6, .int x_2), (7, .int x_4), (8, .int x_5)]) hx hb dX5_allows_70 hl (by decide) rfl (fun ls hl => ?_)
    refine lv_iload hx hb dX5_allows_72 (lv_at hl 7 rfl) ?_
    refine bz_ne (tgt := 93) hx hb rfl dX5_allows_74 (by decide) (fun c_13 => ?_) (fun c_13 => ?_)
    · skip
      refine lv_iload hx hb dX5_allows_93 (lv_at hl 7 rfl) ?_
      exact zaI hQ hx hb hr hlk hP hS ⟨hI, rfl⟩ dX5_allows_95
    · skip
      refine lv_iload hx hb dX5_allows_77 (lv_at hl 0 rfl) ?_
      refine bz_ne (tgt := 93) hx hb rfl dX5_allows_79 (by decide) (fun c_14 => ?_) (fun c_14 => ?_)
      · skip
        refine lv_iload hx hb dX5_allows_93 (lv_at hl 7 rfl) ?_
        exact zaI hQ hx hb hr hlk hP hS ⟨hI, rfl⟩ dX5_allows_95
      · skip
        refine lv_aload_n hx hb dX5_allows_82 rfl (lv_at hl 3 rfl) ?_
        refine lv_aload_n hx hb dX5_allows_83 rfl (lv_at hl 4 rfl) ?_
        refine lv_iload hx hb dX5_allows_84 (lv_at hl 8 rfl) ?_
        refine zcS (zrV (As := [.ref a3, .int x_4]) (b := a2) (rest := []) C hs hP hS (c_X9_firstOf l D K hO vi_2 va_2 vg hI a2 ha2 hk2 a3 ha3 hk3 x_4) m_X9_firstOf wm_X5_33 (zrecv hs hP ha2 (zF_8 hk2) rfl) ⟨by decide, by decide⟩ hl.1 (Nat.le_of_ble_eq_true rfl) dX5_allows_86) (fun x_15 p_15 => ?_)
        refine lv_iconst (v := (-1)) hx hb dX5_allows_89 (by decide) ?_
        refine bi_eq (tgt := 96) hx hb rfl ti_m1 dX5_allows_90 (by decide) (fun c_16 => ?_) (fun c_16 => ?_)
        · skip
          refine lv_aload_n hx hb dX5_allows_96 rfl (lv_at hl 3 rfl) ?_
          refine lv_aload_n hx hb dX5_allows_97 rfl (lv_at hl 4 rfl) ?_
          refine lv_iconst (v := 4) hx hb dX5_allows_98 (by decide) ?_
          refine zcS (zrV (As := [.ref a3, .int 4]) (b := a2) (rest := []) C hs hP hS (c_X9_firstOf l D K hO vi_2 va_2 vg hI a2 ha2 hk2 a3 ha3 hk3 4) m_X9_firstOf wm_X5_33 (zrecv hs hP ha2 (zF_8 hk2) rfl) ⟨by decide, by decide⟩ hl.1 (Nat.le_of_ble_eq_true rfl) dX5_allows_99) (fun x_17 p_17 => ?_)
          refine lv_iconst (v := (-1)) hx hb dX5_allows_102 (by decide) ?_
          refine bi_ne (tgt := 110) hx hb rfl ti_m1 dX5_allows_103 (by decide) (fun c_18 => ?_) (fun c_18 => ?_)
          · skip
            refine lv_iconst (v := 2) hx hb dX5_allows_110 (by decide) ?_
            exact zaI hQ hx hb hr hlk hP hS ⟨hI, rfl⟩ dX5_allows_111
          · skip
            refine lv_iconst (v := 0) hx hb dX5_allows_106 (by decide) ?_
            refine lv_goto (tgt := 111) hx hb dX5_allows_107 (by decide) ?_
            exact zaI hQ hx hb hr hlk hP hS ⟨hI, rfl⟩ dX5_allows_111
        · skip
          refine lv_iload hx hb dX5_allows_93 (lv_at hl 7 rfl) ?_
          exact zaI hQ hx hb hr hlk hP hS ⟨hI, rfl⟩ dX5_allows_95
  refine bi_eq (tgt := 65) hx hb rfl ti_5 dX5_allows_42 (by decide) (fun c_6 => ?_) (fun c_6 => ?_)
  · skip
    refine lv_iconst (v := 1) hx hb dX5_allows_65 (by decide) ?_
    refine lv_goto (tgt := 70) hx hb dX5_allows_66 (by decide) ?_
    exact J_70_11 1 _ (Or.inr rfl) (lv_sub hl [3, 4, 5, 6, 7, 8, 2, 1, 0] rfl)
  · skip
    refine lv_aload hx hb dX5_allows_45 (lv_at hl 7 rfl) ?_
    refine zg_7_1 C hs hP ha4 hk4 wf_X5_29 dX5_allows_47 ?_
    refine bz_eq (tgt := 65) hx hb rfl dX5_allows_50 (by decide) (fun c_19 => ?_) (fun c_19 => ?_)
    · skip
      refine lv_iconst (v := 1) hx hb dX5_allows_65 (by decide) ?_
      refine lv_goto (tgt := 70) hx hb dX5_allows_66 (by decide) ?_
      exact J_70_11 1 _ (Or.inr rfl) (lv_sub hl [3, 4, 5, 6, 7, 8, 2, 1, 0] rfl)
    · skip
      refine lv_iload hx hb dX5_allows_53 (lv_at hl 1 rfl) ?_
      refine lv_iconst (v := 5) hx hb dX5_allows_55 (by decide) ?_
      refine bi_eq (tgt := 65) hx hb rfl ti_5 dX5_allows_56 (by decide) (fun c_20 => ?_) (fun c_20 => ?_)
      · skip
        refine lv_iconst (v := 1) hx hb dX5_allows_65 (by decide) ?_
        refine lv_goto (tgt := 70) hx hb dX5_allows_66 (by decide) ?_
        exact J_70_11 1 _ (Or.inr rfl) (lv_sub hl [3, 4, 5, 6, 7, 8, 2, 1, 0] rfl)
      · skip
        refine lv_iload hx hb dX5_allows_59 (lv_at hl 0 rfl) ?_
        refine lv_iconst (v := 4) hx hb dX5_allows_61 (by decide) ?_
        refine bi_ne (tgt := 69) hx hb rfl ti_4 dX5_allows_62 (by decide) (fun c_21 => ?_) (fun c_21 => ?_)
        · skip
          refine lv_iconst (v := 0) hx hb dX5_allows_69 (by decide) ?_
          exact J_70_11 0 _ (Or.inl rfl) (lv_sub hl [3, 4, 5, 6, 7, 8, 2, 1, 0] rfl)
        · skip
          refine lv_iconst (v := 1) hx hb dX5_allows_65 (by decide) ?_
          refine lv_goto (tgt := 70) hx hb dX5_allows_66 (by decide) ?_
          exact J_70_11 1 _ (Or.inr rfl) (lv_sub hl [3, 4, 5, 6, 7, 8, 2, 1, 0] rfl)
set_option maxHeartbeats 4000000 in
set_option maxRecDepth 100000 in
theorem c_X10_allows (l : Launch) (D : va_G) (K : zK) (hO : zOk K) (vi va : Nat → Nat → Int32) (vg : Nat → Nat → Option Nat) (hI : zI K (vi, va, vg)) (a0 : Nat) (ha0 : a0 ∈ zl K) (hk0 : zk K a0 = 9) (a1 : Nat) (ha1 : a1 ∈ zl K) (hk1 : zk K a1 = 5) (a2 : Nat) (ha2 : a2 ∈ zl K) (hk2 : zk K a2 = 8) (a3 : Nat) (ha3 : a3 ∈ zl K) (hk3 : zk K a3 = 7) (a4 : Nat) (ha4 : a4 ∈ zl K) (hk4 : zk K a4 = 7) (x5 : Int32) : Met l yX10_allows (zc yX10_allows cX10_allows 9 (some .int)) (rmd 2) (va_Pc [.ref a0, .ref a1, .ref a2, .ref a3, .ref a4, .int x5] (zB D K (vi, va, vg))) (zQi D K (fun r V' => zI K V' ∧ V'.2.2 = vg)) 0 0 (zA K) := by
  refine zin (by decide) (Nat.le_of_ble_eq_true rfl) ?_
  intro p e s m args below meth c ls Q hQ C hr hlk hP hs hl
  have C : CallFix p m c cX10_allows 9 s args zw RX10 := C
  obtain ⟨hx, hb, hml, hown, hts⟩ := id C
  have hS : va_S (zA K) s.heap s.heap [] := va_S.rf
  have hl : lv_has ls 9 [(0, .ref a0), (1, .ref a1), (2, .ref a2), (3, .ref a3), (4, .ref a4), (5, .int x5)] := hl
  refine lv_aload_n hx hb dX10_allows_0 rfl (lv_at hl 1 rfl) ?_
  refine lv_bipush (v := 23) hx hb dX10_allows_1 (by decide) ?_
  refine zcV (zrV (As := [.int 23]) (b := a1) (rest := []) C hs hP hS (c_X6_body l D K hO vi va vg hI a1 ha1 hk1 23) m_X6_body wm_X10_9 (zrecv hs hP ha1 (zF_5 hk1) rfl) ⟨by decide, by decide⟩ hl.1 (Nat.le_of_ble_eq_true rfl) dX10_allows_3) hS (fun V_1 H locs p_1 hP hS => ?_)
  obtain ⟨vi_1, va_1, vg_1⟩ := V_1
  obtain ⟨hI, hg_1⟩ := p_1
  try dsimp only at hI hg_1
  replace hg_1 := hg_1.symm
  subst hg_1
  refine lv_aload_n hx hb dX10_allows_6 rfl (lv_at hl 0 rfl) ?_
  refine lv_aload_n hx hb dX10_allows_7 rfl (lv_at hl 1 rfl) ?_
  refine lv_aload_n hx hb dX10_allows_8 rfl (lv_at hl 2 rfl) ?_
  refine lv_aload_n hx hb dX10_allows_9 rfl (lv_at hl 3 rfl) ?_
  refine lv_aload hx hb dX10_allows_10 (lv_at hl 4 rfl) ?_
  refine lv_iload hx hb dX10_allows_12 (lv_at hl 5 rfl) ?_
  refine zcI (zrSU (As := [.ref a1, .ref a2, .ref a3, .ref a4, .int x5]) (b := a0) (rest := []) C hs hP hS (c_X3_allows l D K hO vi_1 va_1 vg hI a0 ha0 (Or.inr (Or.inr (Or.inr hk0))) a1 ha1 hk1 a2 ha2 hk2 a3 ha3 hk3 a4 ha4 hk4 x5) m0_X3_allows wi_X3_allows wm_X10_14 wq_X3_X3_allows wu_X10_X3 (Or.inl rfl) ⟨rfl, rfl⟩ (by decide) (zrecvF hs hP ha0 (Or.inr (Or.inr (Or.inr hk0)))) ⟨by decide, by decide⟩ hl.1 (Nat.le_of_ble_eq_true rfl) dX10_allows_14) hS (fun x_2 V_2 H locs p_2 hP hS => ?_)
  obtain ⟨vi_2, va_2, vg_2⟩ := V_2
  obtain ⟨hI, hg_2⟩ := p_2
  try dsimp only at hI hg_2
  replace hg_2 := hg_2.symm
  subst hg_2
  refine lv_istore (lv' := [(6, .int x_2), (0, .ref a0), (1, .ref a1), (2, .ref a2), (3, .ref a3), (4, .ref a4), (5, .int x5)]) hx hb dX10_allows_17 hl (by decide) rfl (fun ls hl => ?_)
  refine lv_iload hx hb dX10_allows_19 (lv_at hl 0 rfl) ?_
  refine bz_ne (tgt := 42) hx hb rfl dX10_allows_21 (by decide) (fun c_3 => ?_) (fun c_3 => ?_)
  · skip
    refine lv_iload hx hb dX10_allows_42 (lv_at hl 0 rfl) ?_
    exact zaI hQ hx hb hr hlk hP hS ⟨hI, rfl⟩ dX10_allows_44
  · skip
    refine lv_aload hx hb dX10_allows_24 (lv_at hl 5 rfl) ?_
    refine zg_7_1 C hs hP ha4 hk4 wf_X10_18 dX10_allows_26 ?_
    refine bz_ne (tgt := 42) hx hb rfl dX10_allows_29 (by decide) (fun c_4 => ?_) (fun c_4 => ?_)
    · skip
      refine lv_iload hx hb dX10_allows_42 (lv_at hl 0 rfl) ?_
      exact zaI hQ hx hb hr hlk hP hS ⟨hI, rfl⟩ dX10_allows_44
    · skip
      refine lv_aload_n hx hb dX10_allows_32 rfl (lv_at hl 3 rfl) ?_
      refine lv_iload hx hb dX10_allows_33 (lv_at hl 6 rfl) ?_
      refine zcS (zrV (As := [.int x5]) (b := a2) (rest := []) C hs hP hS (c_X9_colourOf l D K hO vi_2 va_2 vg hI a2 ha2 hk2 x5) m_X9_colourOf wm_X10_24 (zrecv hs hP ha2 (zF_8 hk2) rfl) ⟨by decide, by decide⟩ hl.1 (Nat.le_of_ble_eq_true rfl) dX10_allows_35) (fun x_5 p_5 => ?_)
      refine lv_iconst (v := 3) hx hb dX10_allows_38 (by decide) ?_
      refine bi_eq (tgt := 45) hx hb rfl ti_3 dX10_allows_39 (by decide) (fun c_6 => ?_) (fun c_6 => ?_)
      · skip
        refine lv_iconst (v := 0) hx hb dX10_allows_45 (by decide) ?_
        refine lv_istore (lv' := [(7, .int 0), (6, .int x_2), (0, .ref a0), (1, .ref a1), (2, .ref a2), (3, .ref a3), (4, .ref a4), (5, .int x5)]) hx hb dX10_allows_46 hl (by decide) rfl (fun ls hl => ?_)
        have L_48_8 : ∀ (n_8 : Nat) (y_7 : Int32) (ls : Array Slot), (2147483648 - y_7.toInt).toNat < n_8 → 0 ≤ y_7.toInt → lv_has ls 9 [(7, .int y_7), (6, .int x_2), (0, .ref a0), (1, .ref a1), (2, .ref a2), (3, .ref a3), (4, .ref a4), (5, .int x5)] → W p l e (rmd 2) s m args below meth c H locs 0 0 Q (F0 m 48 ls []) := by
          intro n_8
          induction n_8 with
          | zero => intro y_7 ls hm_8; exact absurd hm_8 (Nat.not_lt_zero _)
          | succ n_8 ih_8 =>
            intro y_7 ls hm_8 iv_9_0 hl
            refine lv_iload hx hb dX10_allows_48 (lv_at hl 0 rfl) ?_
            refine lv_aload_n hx hb dX10_allows_50 rfl (lv_at hl 5 rfl) ?_
            refine zg_7_1 C hs hP ha3 hk3 wf_X10_18 dX10_allows_51 ?_
            refine bi_ge (tgt := 90) hx hb rfl rfl dX10_allows_54 (by decide) (fun c_10 => ?_) (fun c_10 => ?_)
            · skip
              refine lv_iconst (v := 0) hx hb dX10_allows_90 (by decide) ?_
              exact zaI hQ hx hb hr hlk hP hS ⟨hI, rfl⟩ dX10_allows_91
            · skip
              refine lv_aload_n hx hb dX10_allows_57 rfl (lv_at hl 4 rfl) ?_
              refine lv_aload_n hx hb dX10_allows_58 rfl (lv_at hl 5 rfl) ?_
              refine lv_iload hx hb dX10_allows_59 (lv_at hl 0 rfl) ?_
              refine zcS (zrV (As := [.int y_7]) (b := a3) (rest := [.ref a2]) C hs hP hS (c_X8_at l D K hO vi_2 va_2 vg hI a3 ha3 hk3 y_7) m_X8_at wm_X10_30 (zrecv hs hP ha3 (zF_7 hk3) rfl) ⟨by decide, by decide⟩ hl.1 (Nat.le_of_ble_eq_true rfl) dX10_allows_61) (fun x_11 p_11 => ?_)
              refine zcS (zrV (As := [.int x_11]) (b := a2) (rest := []) C hs hP hS (c_X9_colourOf l D K hO vi_2 va_2 vg hI a2 ha2 hk2 x_11) m_X9_colourOf wm_X10_24 (zrecv hs hP ha2 (zF_8 hk2) rfl) ⟨by decide, by decide⟩ hl.1 (Nat.le_of_ble_eq_true rfl) dX10_allows_64) (fun x_12 p_12 => ?_)
              refine lv_istore (lv' := [(8, .int x_12), (7, .int y_7), (6, .int x_2), (0, .ref a0), (1, .ref a1), (2, .ref a2), (3, .ref a3), (4, .ref a4), (5, .int x5)]) hx hb dX10_allows_67 hl (by decide) rfl (fun ls hl => ?_)
              refine lv_iload hx hb dX10_allows_69 (lv_at hl 0 rfl) ?_
              refine lv_iconst (v := 3) hx hb dX10_allows_71 (by decide) ?_
              refine bi_eq (tgt := 84) hx hb rfl ti_3 dX10_allows_72 (by decide) (fun c_13 => ?_) (fun c_13 => ?_)
              · skip
                obtain ⟨x_14, ex_14⟩ : ∃ y : Int32, y = y_7 + 1 := ⟨_, rfl⟩
                refine lv_iinc (v := x_14) (lv' := [(7, .int x_14), (8, .int x_12), (6, .int x_2), (0, .ref a0), (1, .ref a1), (2, .ref a2), (3, .ref a3), (4, .ref a4), (5, .int x5)]) hx hb dX10_allows_84 hl (k := 1) rfl (by rw [ex_14]; rfl) (by decide) rfl (fun ls hl => ?_)
                refine lv_goto (tgt := 48) hx hb dX10_allows_87 (by decide) ?_
                have g_15 := z_rng y_7
                obtain ⟨f_14, l_14, u_14⟩ := z_add ex_14 rfl ti_1
                have g_16 := z_rng x_12
                have g_17 := z_rng (vi_2 a3 1)
                exact ih_8 x_14 _ (by omega) (by omega) (lv_sub hl [0, 2, 3, 4, 5, 6, 7, 8] rfl)
              · skip
                refine lv_iload hx hb dX10_allows_75 (lv_at hl 0 rfl) ?_
                refine lv_bipush (v := 6) hx hb dX10_allows_77 (by decide) ?_
                refine bi_eq (tgt := 84) hx hb rfl ti_6 dX10_allows_79 (by decide) (fun c_18 => ?_) (fun c_18 => ?_)
                · skip
                  obtain ⟨x_19, ex_19⟩ : ∃ y : Int32, y = y_7 + 1 := ⟨_, rfl⟩
                  refine lv_iinc (v := x_19) (lv' := [(7, .int x_19), (8, .int x_12), (6, .int x_2), (0, .ref a0), (1, .ref a1), (2, .ref a2), (3, .ref a3), (4, .ref a4), (5, .int x5)]) hx hb dX10_allows_84 hl (k := 1) rfl (by rw [ex_19]; rfl) (by decide) rfl (fun ls hl => ?_)
                  refine lv_goto (tgt := 48) hx hb dX10_allows_87 (by decide) ?_
                  have g_20 := z_rng y_7
                  obtain ⟨f_19, l_19, u_19⟩ := z_add ex_19 rfl ti_1
                  have g_21 := z_rng (vi_2 a3 1)
                  have g_22 := z_rng x_12
                  exact ih_8 x_19 _ (by omega) (by omega) (lv_sub hl [0, 2, 3, 4, 5, 6, 7, 8] rfl)
                · skip
                  refine lv_iconst (v := 3) hx hb dX10_allows_82 (by decide) ?_
                  exact zaI hQ hx hb hr hlk hP hS ⟨hI, rfl⟩ dX10_allows_83
        have g_23 := z_rng x_5
        have g_24 := z_rng (vi_2 a4 1)
        have g_25 := z_rng x_2
        exact L_48_8 _ 0 _ (Nat.lt_succ_self _) (by simp only [ti_0]; omega) (lv_sub hl [0, 1, 2, 3, 4, 5, 6, 7] rfl)
      · skip
        refine lv_iload hx hb dX10_allows_42 (lv_at hl 0 rfl) ?_
        exact zaI hQ hx hb hr hlk hP hS ⟨hI, rfl⟩ dX10_allows_44
set_option maxHeartbeats 4000000 in
set_option maxRecDepth 100000 in
theorem c_X7_allows (l : Launch) (D : va_G) (K : zK) (hO : zOk K) (vi va : Nat → Nat → Int32) (vg : Nat → Nat → Option Nat) (hI : zI K (vi, va, vg)) (a0 : Nat) (ha0 : a0 ∈ zl K) (hk0 : zk K a0 = 6) (a1 : Nat) (ha1 : a1 ∈ zl K) (hk1 : zk K a1 = 5) (a2 : Nat) (ha2 : a2 ∈ zl K) (hk2 : zk K a2 = 8) (a3 : Nat) (ha3 : a3 ∈ zl K) (hk3 : zk K a3 = 7) (a4 : Nat) (ha4 : a4 ∈ zl K) (hk4 : zk K a4 = 7) (x5 : Int32) : Met l yX7_allows (zc yX7_allows cX7_allows 6 (some .int)) (rmd 3) (va_Pc [.ref a0, .ref a1, .ref a2, .ref a3, .ref a4, .int x5] (zB D K (vi, va, vg))) (zQi D K (fun r V' => zI K V' ∧ V'.2.2 = vg)) 0 0 (zA K) := by
  refine zin (by decide) (Nat.le_of_ble_eq_true rfl) ?_
  intro p e s m args below meth c ls Q hQ C hr hlk hP hs hl
  have C : CallFix p m c cX7_allows 6 s args zw RX7 := C
  obtain ⟨hx, hb, hml, hown, hts⟩ := id C
  have hS : va_S (zA K) s.heap s.heap [] := va_S.rf
  have hl : lv_has ls 6 [(0, .ref a0), (1, .ref a1), (2, .ref a2), (3, .ref a3), (4, .ref a4), (5, .int x5)] := hl
  refine lv_aload_n hx hb dX7_allows_0 rfl (lv_at hl 1 rfl) ?_
  refine lv_bipush (v := 24) hx hb dX7_allows_1 (by decide) ?_
  refine zcV (zrV (As := [.int 24]) (b := a1) (rest := []) C hs hP hS (c_X6_body l D K hO vi va vg hI a1 ha1 hk1 24) m_X6_body wm_X7_18 (zrecv hs hP ha1 (zF_5 hk1) rfl) ⟨by decide, by decide⟩ hl.1 (Nat.le_of_ble_eq_true rfl) dX7_allows_3) hS (fun V_1 H locs p_1 hP hS => ?_)
  obtain ⟨vi_1, va_1, vg_1⟩ := V_1
  obtain ⟨hI, hg_1⟩ := p_1
  try dsimp only at hI hg_1
  replace hg_1 := hg_1.symm
  subst hg_1
  refine lv_aload_n hx hb dX7_allows_6 rfl (lv_at hl 0 rfl) ?_
  refine zg_6_1 C hs hP ha0 hk0 wf_X7_9 dX7_allows_7 ?_
  have hf_2 := hO.2.2.2.2.2.1 _ ha0 hk0 1 (Or.inl rfl)
  refine lv_aload_n hx hb dX7_allows_10 rfl (lv_at hl 1 rfl) ?_
  refine lv_aload_n hx hb dX7_allows_11 rfl (lv_at hl 2 rfl) ?_
  refine lv_aload_n hx hb dX7_allows_12 rfl (lv_at hl 3 rfl) ?_
  refine lv_aload hx hb dX7_allows_13 (lv_at hl 4 rfl) ?_
  refine lv_iload hx hb dX7_allows_15 (lv_at hl 5 rfl) ?_
  have run_3 : va_Run p l e (rmd 3) s m args below meth c H locs 0 0 0 0 (F0 m 17 ls [.int x5, .ref a4, .ref a3, .ref a2, .ref a1, .ref (zr K a0 1)]) [] ((zQi D K (fun r V' => zI K V' ∧ V'.2.2 = vg)) ([.ref (zr K a0 1), .ref a1, .ref a2, .ref a3, .ref a4, .int x5] : List Value).toArray) (zA K) := by
    rcases hf_2.2 with h9 | h9 | h9 | h9
    · exact zrUO (Cn := RX0) (As := [.ref a1, .ref a2, .ref a3, .ref a4, .int x5]) (b := zr K a0 1) (rest := []) C hs hP hS (c_X5_allows l D K hO vi_1 va_1 vg hI (zr K a0 1) hf_2.1 (Or.inl h9) a1 ha1 hk1 a2 ha2 hk2 a3 ha3 hk3 a4 ha4 hk4 x5) m0_X5_allows wi_X5_allows wm_X7_29 wq_X3_X3_allows we_X0_X3_allows wo_X3_allows wi_X3_allows ⟨by decide, by decide⟩ rfl (zrecv hs hP hf_2.1 (zF_0 h9) rfl) ⟨by decide, by decide⟩ hl.1 (Nat.le_of_ble_eq_true rfl) dX7_allows_17
    · exact zrV (As := [.ref a1, .ref a2, .ref a3, .ref a4, .int x5]) (b := zr K a0 1) (rest := []) C hs hP hS (c_X3_allows l D K hO vi_1 va_1 vg hI (zr K a0 1) hf_2.1 (Or.inr (Or.inl h9)) a1 ha1 hk1 a2 ha2 hk2 a3 ha3 hk3 a4 ha4 hk4 x5) m_X3_allows wm_X7_29 (zrecv hs hP hf_2.1 (zF_3 h9) rfl) ⟨by decide, by decide⟩ hl.1 (Nat.le_of_ble_eq_true rfl) dX7_allows_17
    · exact zrUO (Cn := RX5) (As := [.ref a1, .ref a2, .ref a3, .ref a4, .int x5]) (b := zr K a0 1) (rest := []) C hs hP hS (c_X5_allows l D K hO vi_1 va_1 vg hI (zr K a0 1) hf_2.1 (Or.inr (Or.inr (Or.inl h9))) a1 ha1 hk1 a2 ha2 hk2 a3 ha3 hk3 a4 ha4 hk4 x5) m0_X5_allows wi_X5_allows wm_X7_29 wq_X3_X3_allows we_X5_X3_allows wo_X3_allows wi_X3_allows ⟨by decide, by decide⟩ rfl (zrecv hs hP hf_2.1 (zF_4 h9) rfl) ⟨by decide, by decide⟩ hl.1 (Nat.le_of_ble_eq_true rfl) dX7_allows_17
    · exact zrUO (Cn := RX10) (As := [.ref a1, .ref a2, .ref a3, .ref a4, .int x5]) (b := zr K a0 1) (rest := []) C hs hP hS (c_X10_allows l D K hO vi_1 va_1 vg hI (zr K a0 1) hf_2.1 h9 a1 ha1 hk1 a2 ha2 hk2 a3 ha3 hk3 a4 ha4 hk4 x5) m0_X10_allows wi_X10_allows wm_X7_29 wq_X3_X3_allows we_X10_X3_allows wo_X3_allows wi_X3_allows ⟨by decide, by decide⟩ rfl (zrecv hs hP hf_2.1 (zF_9 h9) rfl) ⟨by decide, by decide⟩ hl.1 (Nat.le_of_ble_eq_true rfl) dX7_allows_17
  refine zcI run_3 hS (fun x_4 V_4 H locs p_4 hP hS => ?_)
  obtain ⟨vi_4, va_4, vg_4⟩ := V_4
  obtain ⟨hI, hg_4⟩ := p_4
  try dsimp only at hI hg_4
  replace hg_4 := hg_4.symm
  subst hg_4
  exact zaI hQ hx hb hr hlk hP hS ⟨hI, rfl⟩ dX7_allows_20
set_option maxHeartbeats 4000000 in
set_option maxRecDepth 100000 in
theorem c_X3_wins (l : Launch) (D : va_G) (K : zK) (hO : zOk K) (vi va : Nat → Nat → Int32) (vg : Nat → Nat → Option Nat) (hI : zI K (vi, va, vg)) (a0 : Nat) (ha0 : a0 ∈ zl K) (hk0 : fol K a0) (a1 : Nat) (ha1 : a1 ∈ zl K) (hk1 : zk K a1 = 5) (a2 : Nat) (ha2 : a2 ∈ zl K) (hk2 : zk K a2 = 8) (a3 : Nat) (ha3 : a3 ∈ zl K) (hk3 : zk K a3 = 7) : Met l yX3_wins (zc yX3_wins cX3_wins 6 (some .int)) (rmd 1) (va_Pc [.ref a0, .ref a1, .ref a2, .ref a3] (zB D K (vi, va, vg))) (zQi D K (fun r V' => zI K V' ∧ V'.2.2 = vg)) 0 0 (zA K) := by
  refine zin (by decide) (Nat.le_of_ble_eq_true rfl) ?_
  intro p e s m args below meth c ls Q hQ C hr hlk hP hs hl
  have C : CallFix p m c cX3_wins 6 s args zw RX3 := C
  obtain ⟨hx, hb, hml, hown, hts⟩ := id C
  have hS : va_S (zA K) s.heap s.heap [] := va_S.rf
  have hl : lv_has ls 6 [(0, .ref a0), (1, .ref a1), (2, .ref a2), (3, .ref a3)] := hl
  refine lv_aload_n hx hb dX3_wins_0 rfl (lv_at hl 1 rfl) ?_
  refine lv_bipush (v := 31) hx hb dX3_wins_1 (by decide) ?_
  refine zcV (zrV (As := [.int 31]) (b := a1) (rest := []) C hs hP hS (c_X6_body l D K hO vi va vg hI a1 ha1 hk1 31) m_X6_body wm_X3_9 (zrecv hs hP ha1 (zF_5 hk1) rfl) ⟨by decide, by decide⟩ hl.1 (Nat.le_of_ble_eq_true rfl) dX3_wins_3) hS (fun V_1 H locs p_1 hP hS => ?_)
  obtain ⟨vi_1, va_1, vg_1⟩ := V_1
  obtain ⟨hI, hg_1⟩ := p_1
  try dsimp only at hI hg_1
  replace hg_1 := hg_1.symm
  subst hg_1
  refine lv_aload_n hx hb dX3_wins_6 rfl (lv_at hl 2 rfl) ?_
  refine lv_aload_n hx hb dX3_wins_7 rfl (lv_at hl 3 rfl) ?_
  refine lv_iconst (v := 5) hx hb dX3_wins_8 (by decide) ?_
  refine zcS (zrV (As := [.ref a3, .int 5]) (b := a2) (rest := []) C hs hP hS (c_X9_firstOf l D K hO vi_1 va_1 vg hI a2 ha2 hk2 a3 ha3 hk3 5) m_X9_firstOf wm_X3_29 (zrecv hs hP ha2 (zF_8 hk2) rfl) ⟨by decide, by decide⟩ hl.1 (Nat.le_of_ble_eq_true rfl) dX3_wins_9) (fun x_2 p_2 => ?_)
  refine lv_istore (lv' := [(4, .int x_2), (0, .ref a0), (1, .ref a1), (2, .ref a2), (3, .ref a3)]) hx hb dX3_wins_12 hl (by decide) rfl (fun ls hl => ?_)
  refine lv_iload hx hb dX3_wins_14 (lv_at hl 0 rfl) ?_
  refine lv_iconst (v := (-1)) hx hb dX3_wins_16 (by decide) ?_
  have J_29_6 : ∀ (y_5 : Int32) (ls : Array Slot), lv_has ls 6 [(0, .ref a0), (1, .ref a1), (2, .ref a2), (3, .ref a3), (4, .int y_5)] → W p l e (rmd 1) s m args below meth c H locs 0 0 Q (F0 m 29 ls []) := by
    intro y_5 ls hl
    refine lv_iload hx hb dX3_wins_29 (lv_at hl 4 rfl) ?_
    refine lv_iconst (v := (-1)) hx hb dX3_wins_31 (by decide) ?_
    refine bi_ne (tgt := 57) hx hb rfl ti_m1 dX3_wins_32 (by decide) (fun c_8 => ?_) (fun c_8 => ?_)
    · skip
      refine lv_iload hx hb dX3_wins_57 (lv_at hl 4 rfl) ?_
      exact zaI hQ hx hb hr hlk hP hS ⟨hI, rfl⟩ dX3_wins_59
    · skip
      refine lv_aload_n hx hb dX3_wins_35 rfl (lv_at hl 2 rfl) ?_
      refine lv_aload_n hx hb dX3_wins_36 rfl (lv_at hl 3 rfl) ?_
      refine lv_iconst (v := 0) hx hb dX3_wins_37 (by decide) ?_
      refine zcS (zrV (As := [.int 0]) (b := a3) (rest := [.ref a2]) C hs hP hS (c_X8_at l D K hO vi_1 va_1 vg hI a3 ha3 hk3 0) m_X8_at wm_X3_14 (zrecv hs hP ha3 (zF_7 hk3) rfl) ⟨by decide, by decide⟩ hl.1 (Nat.le_of_ble_eq_true rfl) dX3_wins_38) (fun x_9 p_9 => ?_)
      refine zcS (zrV (As := [.int x_9]) (b := a2) (rest := []) C hs hP hS (c_X9_colourOf l D K hO vi_1 va_1 vg hI a2 ha2 hk2 x_9) m_X9_colourOf wm_X3_20 (zrecv hs hP ha2 (zF_8 hk2) rfl) ⟨by decide, by decide⟩ hl.1 (Nat.le_of_ble_eq_true rfl) dX3_wins_41) (fun x_10 p_10 => ?_)
      refine lv_istore (lv' := [(5, .int x_10), (0, .ref a0), (1, .ref a1), (2, .ref a2), (3, .ref a3), (4, .int y_5)]) hx hb dX3_wins_44 hl (by decide) rfl (fun ls hl => ?_)
      refine lv_aload_n hx hb dX3_wins_46 rfl (lv_at hl 3 rfl) ?_
      refine lv_aload_n hx hb dX3_wins_47 rfl (lv_at hl 4 rfl) ?_
      refine lv_iload hx hb dX3_wins_48 (lv_at hl 0 rfl) ?_
      refine lv_iload hx hb dX3_wins_50 (lv_at hl 0 rfl) ?_
      refine zcS (zrV (As := [.ref a3, .int x_10, .int x_10]) (b := a2) (rest := []) C hs hP hS (c_X9_strongestOf l D K hO vi_1 va_1 vg hI a2 ha2 hk2 a3 ha3 hk3 x_10 x_10) m_X9_strongestOf wm_X3_33 (zrecv hs hP ha2 (zF_8 hk2) rfl) ⟨by decide, by decide⟩ hl.1 (Nat.le_of_ble_eq_true rfl) dX3_wins_52) (fun x_11 p_11 => ?_)
      refine lv_istore (lv' := [(4, .int x_11), (5, .int x_10), (0, .ref a0), (1, .ref a1), (2, .ref a2), (3, .ref a3)]) hx hb dX3_wins_55 hl (by decide) rfl (fun ls hl => ?_)
      refine lv_iload hx hb dX3_wins_57 (lv_at hl 0 rfl) ?_
      exact zaI hQ hx hb hr hlk hP hS ⟨hI, rfl⟩ dX3_wins_59
  refine bi_ne (tgt := 29) hx hb rfl ti_m1 dX3_wins_17 (by decide) (fun c_3 => ?_) (fun c_3 => ?_)
  · skip
    exact J_29_6 x_2 _ (lv_sub hl [1, 2, 3, 4, 0] rfl)
  · skip
    refine lv_aload_n hx hb dX3_wins_20 rfl (lv_at hl 3 rfl) ?_
    refine lv_aload_n hx hb dX3_wins_21 rfl (lv_at hl 4 rfl) ?_
    refine lv_iconst (v := 4) hx hb dX3_wins_22 (by decide) ?_
    refine lv_iconst (v := 4) hx hb dX3_wins_23 (by decide) ?_
    refine zcS (zrV (As := [.ref a3, .int 4, .int 4]) (b := a2) (rest := []) C hs hP hS (c_X9_strongestOf l D K hO vi_1 va_1 vg hI a2 ha2 hk2 a3 ha3 hk3 4 4) m_X9_strongestOf wm_X3_33 (zrecv hs hP ha2 (zF_8 hk2) rfl) ⟨by decide, by decide⟩ hl.1 (Nat.le_of_ble_eq_true rfl) dX3_wins_24) (fun x_12 p_12 => ?_)
    refine lv_istore (lv' := [(4, .int x_12), (0, .ref a0), (1, .ref a1), (2, .ref a2), (3, .ref a3)]) hx hb dX3_wins_27 hl (by decide) rfl (fun ls hl => ?_)
    exact J_29_6 x_12 _ (lv_sub hl [1, 2, 3, 4, 0] rfl)
set_option maxHeartbeats 4000000 in
set_option maxRecDepth 100000 in
theorem c_X10_wins (l : Launch) (D : va_G) (K : zK) (hO : zOk K) (vi va : Nat → Nat → Int32) (vg : Nat → Nat → Option Nat) (hI : zI K (vi, va, vg)) (a0 : Nat) (ha0 : a0 ∈ zl K) (hk0 : zk K a0 = 9) (a1 : Nat) (ha1 : a1 ∈ zl K) (hk1 : zk K a1 = 5) (a2 : Nat) (ha2 : a2 ∈ zl K) (hk2 : zk K a2 = 8) (a3 : Nat) (ha3 : a3 ∈ zl K) (hk3 : zk K a3 = 7) : Met l yX10_wins (zc yX10_wins cX10_wins 5 (some .int)) (rmd 1) (va_Pc [.ref a0, .ref a1, .ref a2, .ref a3] (zB D K (vi, va, vg))) (zQi D K (fun r V' => zI K V' ∧ V'.2.2 = vg)) 0 0 (zA K) := by
  refine zin (by decide) (Nat.le_of_ble_eq_true rfl) ?_
  intro p e s m args below meth c ls Q hQ C hr hlk hP hs hl
  have C : CallFix p m c cX10_wins 5 s args zw RX10 := C
  obtain ⟨hx, hb, hml, hown, hts⟩ := id C
  have hS : va_S (zA K) s.heap s.heap [] := va_S.rf
  have hl : lv_has ls 5 [(0, .ref a0), (1, .ref a1), (2, .ref a2), (3, .ref a3)] := hl
  refine lv_aload_n hx hb dX10_wins_0 rfl (lv_at hl 1 rfl) ?_
  refine lv_bipush (v := 32) hx hb dX10_wins_1 (by decide) ?_
  refine zcV (zrV (As := [.int 32]) (b := a1) (rest := []) C hs hP hS (c_X6_body l D K hO vi va vg hI a1 ha1 hk1 32) m_X6_body wm_X10_9 (zrecv hs hP ha1 (zF_5 hk1) rfl) ⟨by decide, by decide⟩ hl.1 (Nat.le_of_ble_eq_true rfl) dX10_wins_3) hS (fun V_1 H locs p_1 hP hS => ?_)
  obtain ⟨vi_1, va_1, vg_1⟩ := V_1
  obtain ⟨hI, hg_1⟩ := p_1
  try dsimp only at hI hg_1
  replace hg_1 := hg_1.symm
  subst hg_1
  refine lv_aload_n hx hb dX10_wins_6 rfl (lv_at hl 2 rfl) ?_
  refine lv_aload_n hx hb dX10_wins_7 rfl (lv_at hl 3 rfl) ?_
  refine lv_iconst (v := 0) hx hb dX10_wins_8 (by decide) ?_
  refine zcS (zrV (As := [.int 0]) (b := a3) (rest := [.ref a2]) C hs hP hS (c_X8_at l D K hO vi_1 va_1 vg hI a3 ha3 hk3 0) m_X8_at wm_X10_30 (zrecv hs hP ha3 (zF_7 hk3) rfl) ⟨by decide, by decide⟩ hl.1 (Nat.le_of_ble_eq_true rfl) dX10_wins_9) (fun x_2 p_2 => ?_)
  refine zcS (zrV (As := [.int x_2]) (b := a2) (rest := []) C hs hP hS (c_X9_colourOf l D K hO vi_1 va_1 vg hI a2 ha2 hk2 x_2) m_X9_colourOf wm_X10_24 (zrecv hs hP ha2 (zF_8 hk2) rfl) ⟨by decide, by decide⟩ hl.1 (Nat.le_of_ble_eq_true rfl) dX10_wins_12) (fun x_3 p_3 => ?_)
  refine lv_istore (lv' := [(4, .int x_3), (0, .ref a0), (1, .ref a1), (2, .ref a2), (3, .ref a3)]) hx hb dX10_wins_15 hl (by decide) rfl (fun ls hl => ?_)
  refine lv_iload hx hb dX10_wins_17 (lv_at hl 0 rfl) ?_
  refine lv_iconst (v := 5) hx hb dX10_wins_19 (by decide) ?_
  refine bi_ne (tgt := 27) hx hb rfl ti_5 dX10_wins_20 (by decide) (fun c_4 => ?_) (fun c_4 => ?_)
  · skip
    refine lv_aload_n hx hb dX10_wins_27 rfl (lv_at hl 3 rfl) ?_
    refine lv_aload_n hx hb dX10_wins_28 rfl (lv_at hl 4 rfl) ?_
    refine lv_iload hx hb dX10_wins_29 (lv_at hl 0 rfl) ?_
    refine lv_iload hx hb dX10_wins_31 (lv_at hl 0 rfl) ?_
    refine zcS (zrV (As := [.ref a3, .int x_3, .int x_3]) (b := a2) (rest := []) C hs hP hS (c_X9_strongestOf l D K hO vi_1 va_1 vg hI a2 ha2 hk2 a3 ha3 hk3 x_3 x_3) m_X9_strongestOf wm_X10_33 (zrecv hs hP ha2 (zF_8 hk2) rfl) ⟨by decide, by decide⟩ hl.1 (Nat.le_of_ble_eq_true rfl) dX10_wins_33) (fun x_5 p_5 => ?_)
    exact zaI hQ hx hb hr hlk hP hS ⟨hI, rfl⟩ dX10_wins_36
  · skip
    refine lv_iconst (v := 0) hx hb dX10_wins_23 (by decide) ?_
    refine lv_goto (tgt := 36) hx hb dX10_wins_24 (by decide) ?_
    exact zaI hQ hx hb hr hlk hP hS ⟨hI, rfl⟩ dX10_wins_36
set_option maxHeartbeats 4000000 in
set_option maxRecDepth 100000 in
theorem c_X0_wins (l : Launch) (D : va_G) (K : zK) (hO : zOk K) (vi va : Nat → Nat → Int32) (vg : Nat → Nat → Option Nat) (hI : zI K (vi, va, vg)) (a0 : Nat) (ha0 : a0 ∈ zl K) (hk0 : zk K a0 = 0) (a1 : Nat) (ha1 : a1 ∈ zl K) (hk1 : zk K a1 = 5) (a2 : Nat) (ha2 : a2 ∈ zl K) (hk2 : zk K a2 = 8) (a3 : Nat) (ha3 : a3 ∈ zl K) (hk3 : zk K a3 = 7) : Met l yX0_wins (zc yX0_wins cX0_wins 6 (some .int)) (rmd 2) (va_Pc [.ref a0, .ref a1, .ref a2, .ref a3] (zB D K (vi, va, vg))) (zQi D K (fun r V' => zI K V' ∧ V'.2.2 = vg)) 0 0 (zA K) := by
  refine zin (by decide) (Nat.le_of_ble_eq_true rfl) ?_
  intro p e s m args below meth c ls Q hQ C hr hlk hP hs hl
  have C : CallFix p m c cX0_wins 6 s args zw RX0 := C
  obtain ⟨hx, hb, hml, hown, hts⟩ := id C
  have hS : va_S (zA K) s.heap s.heap [] := va_S.rf
  have hl : lv_has ls 6 [(0, .ref a0), (1, .ref a1), (2, .ref a2), (3, .ref a3)] := hl
  refine lv_aload_n hx hb dX0_wins_0 rfl (lv_at hl 1 rfl) ?_
  refine lv_bipush (v := 33) hx hb dX0_wins_1 (by decide) ?_
  refine zcV (zrV (As := [.int 33]) (b := a1) (rest := []) C hs hP hS (c_X6_body l D K hO vi va vg hI a1 ha1 hk1 33) m_X6_body wm_X0_9 (zrecv hs hP ha1 (zF_5 hk1) rfl) ⟨by decide, by decide⟩ hl.1 (Nat.le_of_ble_eq_true rfl) dX0_wins_3) hS (fun V_1 H locs p_1 hP hS => ?_)
  obtain ⟨vi_1, va_1, vg_1⟩ := V_1
  obtain ⟨hI, hg_1⟩ := p_1
  try dsimp only at hI hg_1
  replace hg_1 := hg_1.symm
  subst hg_1
  refine lv_aload_n hx hb dX0_wins_6 rfl (lv_at hl 2 rfl) ?_
  refine zg_8_13 C hs hP ha2 hk2 wf_X0_14 dX0_wins_7 ?_
  have hf_2 := hO.r (j := 13) ha2 hk2 (rfl : zX 8 13 = some (1, 0))
  refine zg_1_5 C hs hP hf_2.1 hf_2.2.1 wf_X0_20 dX0_wins_10 ?_
  refine lv_istore (lv' := [(4, .int (vi_1 (zr K a2 13) 5)), (0, .ref a0), (1, .ref a1), (2, .ref a2), (3, .ref a3)]) hx hb dX0_wins_13 hl (by decide) rfl (fun ls hl => ?_)
  refine lv_iconst (v := (-1)) hx hb dX0_wins_15 (by decide) ?_
  refine lv_istore (lv' := [(5, .int (-1)), (4, .int (vi_1 (zr K a2 13) 5)), (0, .ref a0), (1, .ref a1), (2, .ref a2), (3, .ref a3)]) hx hb dX0_wins_16 hl (by decide) rfl (fun ls hl => ?_)
  refine lv_iload hx hb dX0_wins_18 (lv_at hl 1 rfl) ?_
  refine lv_iconst (v := (-1)) hx hb dX0_wins_20 (by decide) ?_
  have J_44_8 : ∀ (y_7 : Int32) (ls : Array Slot), lv_has ls 6 [(0, .ref a0), (1, .ref a1), (2, .ref a2), (3, .ref a3), (4, .int (vi_1 (zr K a2 13) 5)), (5, .int y_7)] → W p l e (rmd 2) s m args below meth c H locs 0 0 Q (F0 m 44 ls []) := by
    intro y_7 ls hl
    refine lv_iload hx hb dX0_wins_44 (lv_at hl 5 rfl) ?_
    refine lv_iconst (v := (-1)) hx hb dX0_wins_46 (by decide) ?_
    refine bi_ne (tgt := 60) hx hb rfl ti_m1 dX0_wins_47 (by decide) (fun c_10 => ?_) (fun c_10 => ?_)
    · skip
      refine lv_iload hx hb dX0_wins_60 (lv_at hl 5 rfl) ?_
      exact zaI hQ hx hb hr hlk hP hS ⟨hI, rfl⟩ dX0_wins_62
    · skip
      refine lv_aload_n hx hb dX0_wins_50 rfl (lv_at hl 0 rfl) ?_
      refine lv_aload_n hx hb dX0_wins_51 rfl (lv_at hl 1 rfl) ?_
      refine lv_aload_n hx hb dX0_wins_52 rfl (lv_at hl 2 rfl) ?_
      refine lv_aload_n hx hb dX0_wins_53 rfl (lv_at hl 3 rfl) ?_
      refine zcI (zrSU (As := [.ref a1, .ref a2, .ref a3]) (b := a0) (rest := []) C hs hP hS (c_X3_wins l D K hO vi_1 va_1 vg hI a0 ha0 (Or.inl hk0) a1 ha1 hk1 a2 ha2 hk2 a3 ha3 hk3) m0_X3_wins wi_X3_wins wm_X0_34 wq_X5_X3_wins wu_X0_X5 (Or.inr wu_X5_X3) ⟨rfl, rfl⟩ (by decide) (zrecvF hs hP ha0 (Or.inl hk0)) ⟨by decide, by decide⟩ hl.1 (Nat.le_of_ble_eq_true rfl) dX0_wins_54) hS (fun x_11 V_11 H locs p_11 hP hS => ?_)
      obtain ⟨vi_11, va_11, vg_11⟩ := V_11
      obtain ⟨hI, hg_11⟩ := p_11
      try dsimp only at hI hg_11
      replace hg_11 := hg_11.symm
      subst hg_11
      refine lv_goto (tgt := 62) hx hb dX0_wins_57 (by decide) ?_
      exact zaI hQ hx hb hr hlk hP hS ⟨hI, rfl⟩ dX0_wins_62
  refine bi_eq (tgt := 44) hx hb rfl ti_m1 dX0_wins_21 (by decide) (fun c_3 => ?_) (fun c_3 => ?_)
  · skip
    exact J_44_8 (-1) _ (lv_sub hl [2, 3, 4, 5, 1, 0] rfl)
  · skip
    refine lv_aload_n hx hb dX0_wins_24 rfl (lv_at hl 4 rfl) ?_
    refine lv_aload_n hx hb dX0_wins_25 rfl (lv_at hl 5 rfl) ?_
    refine lv_iconst (v := 5) hx hb dX0_wins_26 (by decide) ?_
    refine zcS (zrV (As := [.ref a3, .int 5]) (b := a2) (rest := []) C hs hP hS (c_X9_firstOf l D K hO vi_1 va_1 vg hI a2 ha2 hk2 a3 ha3 hk3 5) m_X9_firstOf wm_X0_26 (zrecv hs hP ha2 (zF_8 hk2) rfl) ⟨by decide, by decide⟩ hl.1 (Nat.le_of_ble_eq_true rfl) dX0_wins_27) (fun x_12 p_12 => ?_)
    refine lv_iconst (v := (-1)) hx hb dX0_wins_30 (by decide) ?_
    refine bi_ne (tgt := 44) hx hb rfl ti_m1 dX0_wins_31 (by decide) (fun c_13 => ?_) (fun c_13 => ?_)
    · skip
      exact J_44_8 (-1) _ (lv_sub hl [2, 3, 4, 5, 1, 0] rfl)
    · skip
      refine lv_aload_n hx hb dX0_wins_34 rfl (lv_at hl 4 rfl) ?_
      refine lv_aload_n hx hb dX0_wins_35 rfl (lv_at hl 5 rfl) ?_
      refine lv_iconst (v := 4) hx hb dX0_wins_36 (by decide) ?_
      refine lv_iload hx hb dX0_wins_37 (lv_at hl 1 rfl) ?_
      refine zcS (zrV (As := [.ref a3, .int 4, .int (vi_1 (zr K a2 13) 5)]) (b := a2) (rest := []) C hs hP hS (c_X9_strongestOf l D K hO vi_1 va_1 vg hI a2 ha2 hk2 a3 ha3 hk3 4 (vi_1 (zr K a2 13) 5)) m_X9_strongestOf wm_X0_30 (zrecv hs hP ha2 (zF_8 hk2) rfl) ⟨by decide, by decide⟩ hl.1 (Nat.le_of_ble_eq_true rfl) dX0_wins_39) (fun x_14 p_14 => ?_)
      refine lv_istore (lv' := [(5, .int x_14), (4, .int (vi_1 (zr K a2 13) 5)), (0, .ref a0), (1, .ref a1), (2, .ref a2), (3, .ref a3)]) hx hb dX0_wins_42 hl (by decide) rfl (fun ls hl => ?_)
      exact J_44_8 x_14 _ (lv_sub hl [2, 3, 4, 5, 1, 0] rfl)
set_option maxHeartbeats 4000000 in
set_option maxRecDepth 100000 in
theorem c_X7_wins (l : Launch) (D : va_G) (K : zK) (hO : zOk K) (vi va : Nat → Nat → Int32) (vg : Nat → Nat → Option Nat) (hI : zI K (vi, va, vg)) (a0 : Nat) (ha0 : a0 ∈ zl K) (hk0 : zk K a0 = 6) (a1 : Nat) (ha1 : a1 ∈ zl K) (hk1 : zk K a1 = 5) (a2 : Nat) (ha2 : a2 ∈ zl K) (hk2 : zk K a2 = 8) (a3 : Nat) (ha3 : a3 ∈ zl K) (hk3 : zk K a3 = 7) : Met l yX7_wins (zc yX7_wins cX7_wins 4 (some .int)) (rmd 3) (va_Pc [.ref a0, .ref a1, .ref a2, .ref a3] (zB D K (vi, va, vg))) (zQi D K (fun r V' => zI K V' ∧ V'.2.2 = vg)) 0 0 (zA K) := by
  refine zin (by decide) (Nat.le_of_ble_eq_true rfl) ?_
  intro p e s m args below meth c ls Q hQ C hr hlk hP hs hl
  have C : CallFix p m c cX7_wins 4 s args zw RX7 := C
  obtain ⟨hx, hb, hml, hown, hts⟩ := id C
  have hS : va_S (zA K) s.heap s.heap [] := va_S.rf
  have hl : lv_has ls 4 [(0, .ref a0), (1, .ref a1), (2, .ref a2), (3, .ref a3)] := hl
  refine lv_aload_n hx hb dX7_wins_0 rfl (lv_at hl 1 rfl) ?_
  refine lv_bipush (v := 34) hx hb dX7_wins_1 (by decide) ?_
  refine zcV (zrV (As := [.int 34]) (b := a1) (rest := []) C hs hP hS (c_X6_body l D K hO vi va vg hI a1 ha1 hk1 34) m_X6_body wm_X7_18 (zrecv hs hP ha1 (zF_5 hk1) rfl) ⟨by decide, by decide⟩ hl.1 (Nat.le_of_ble_eq_true rfl) dX7_wins_3) hS (fun V_1 H locs p_1 hP hS => ?_)
  obtain ⟨vi_1, va_1, vg_1⟩ := V_1
  obtain ⟨hI, hg_1⟩ := p_1
  try dsimp only at hI hg_1
  replace hg_1 := hg_1.symm
  subst hg_1
  refine lv_aload_n hx hb dX7_wins_6 rfl (lv_at hl 0 rfl) ?_
  refine zg_6_1 C hs hP ha0 hk0 wf_X7_9 dX7_wins_7 ?_
  have hf_2 := hO.2.2.2.2.2.1 _ ha0 hk0 1 (Or.inl rfl)
  refine lv_aload_n hx hb dX7_wins_10 rfl (lv_at hl 1 rfl) ?_
  refine lv_aload_n hx hb dX7_wins_11 rfl (lv_at hl 2 rfl) ?_
  refine lv_aload_n hx hb dX7_wins_12 rfl (lv_at hl 3 rfl) ?_
  have run_3 : va_Run p l e (rmd 3) s m args below meth c H locs 0 0 0 0 (F0 m 13 ls [.ref a3, .ref a2, .ref a1, .ref (zr K a0 1)]) [] ((zQi D K (fun r V' => zI K V' ∧ V'.2.2 = vg)) ([.ref (zr K a0 1), .ref a1, .ref a2, .ref a3] : List Value).toArray) (zA K) := by
    rcases hf_2.2 with h9 | h9 | h9 | h9
    · exact zrUO (Cn := RX0) (As := [.ref a1, .ref a2, .ref a3]) (b := zr K a0 1) (rest := []) C hs hP hS (c_X0_wins l D K hO vi_1 va_1 vg hI (zr K a0 1) hf_2.1 h9 a1 ha1 hk1 a2 ha2 hk2 a3 ha3 hk3) m0_X0_wins wi_X0_wins wm_X7_35 wq_X3_X3_wins we_X0_X3_wins wo_X3_wins wi_X3_wins ⟨by decide, by decide⟩ rfl (zrecv hs hP hf_2.1 (zF_0 h9) rfl) ⟨by decide, by decide⟩ hl.1 (Nat.le_of_ble_eq_true rfl) dX7_wins_13
    · exact zrV (As := [.ref a1, .ref a2, .ref a3]) (b := zr K a0 1) (rest := []) C hs hP hS (c_X3_wins l D K hO vi_1 va_1 vg hI (zr K a0 1) hf_2.1 (Or.inr (Or.inl h9)) a1 ha1 hk1 a2 ha2 hk2 a3 ha3 hk3) m_X3_wins wm_X7_35 (zrecv hs hP hf_2.1 (zF_3 h9) rfl) ⟨by decide, by decide⟩ hl.1 (Nat.le_of_ble_eq_true rfl) dX7_wins_13
    · exact zrUO (Cn := RX5) (As := [.ref a1, .ref a2, .ref a3]) (b := zr K a0 1) (rest := []) C hs hP hS (c_X3_wins l D K hO vi_1 va_1 vg hI (zr K a0 1) hf_2.1 (Or.inr (Or.inr (Or.inl h9))) a1 ha1 hk1 a2 ha2 hk2 a3 ha3 hk3) m0_X3_wins wi_X3_wins wm_X7_35 wq_X3_X3_wins we_X5_X3_wins wo_X3_wins wi_X3_wins ⟨by decide, by decide⟩ rfl (zrecv hs hP hf_2.1 (zF_4 h9) rfl) ⟨by decide, by decide⟩ hl.1 (Nat.le_of_ble_eq_true rfl) dX7_wins_13
    · exact zrUO (Cn := RX10) (As := [.ref a1, .ref a2, .ref a3]) (b := zr K a0 1) (rest := []) C hs hP hS (c_X10_wins l D K hO vi_1 va_1 vg hI (zr K a0 1) hf_2.1 h9 a1 ha1 hk1 a2 ha2 hk2 a3 ha3 hk3) m0_X10_wins wi_X10_wins wm_X7_35 wq_X3_X3_wins we_X10_X3_wins wo_X3_wins wi_X3_wins ⟨by decide, by decide⟩ rfl (zrecv hs hP hf_2.1 (zF_9 h9) rfl) ⟨by decide, by decide⟩ hl.1 (Nat.le_of_ble_eq_true rfl) dX7_wins_13
  refine zcI run_3 hS (fun x_4 V_4 H locs p_4 hP hS => ?_)
  obtain ⟨vi_4, va_4, vg_4⟩ := V_4
  obtain ⟨hI, hg_4⟩ := p_4
  try dsimp only at hI hg_4
  replace hg_4 := hg_4.symm
  subst hg_4
  exact zaI hQ hx hb hr hlk hP hS ⟨hI, rfl⟩ dX7_wins_16
set_option maxHeartbeats 4000000 in
set_option maxRecDepth 100000 in
theorem c_X3_score (l : Launch) (D : va_G) (K : zK) (hO : zOk K) (vi va : Nat → Nat → Int32) (vg : Nat → Nat → Option Nat) (hI : zI K (vi, va, vg)) (a0 : Nat) (ha0 : a0 ∈ zl K) (hk0 : fol K a0) (a1 : Nat) (ha1 : a1 ∈ zl K) (hk1 : zk K a1 = 5) (a2 : Nat) (ha2 : a2 ∈ zl K) (hk2 : zk K a2 = 8) (a3 : Nat) (ha3 : a3 ∈ zl K) (hk3 : zk K a3 = 7) (x4 : Int32) : Met l yX3_score (zc yX3_score cX3_score 5 (some .int)) (rmd 1) (va_Pc [.ref a0, .ref a1, .ref a2, .ref a3, .int x4] (zB D K (vi, va, vg))) (zQi D K (fun r V' => zI K V' ∧ V'.2.2 = vg)) 0 0 (zA K) := by
  refine zin (by decide) (Nat.le_of_ble_eq_true rfl) ?_
  intro p e s m args below meth c ls Q hQ C hr hlk hP hs hl
  have C : CallFix p m c cX3_score 5 s args zw RX3 := C
  obtain ⟨hx, hb, hml, hown, hts⟩ := id C
  have hS : va_S (zA K) s.heap s.heap [] := va_S.rf
  have hl : lv_has ls 5 [(0, .ref a0), (1, .ref a1), (2, .ref a2), (3, .ref a3), (4, .int x4)] := hl
  refine lv_aload_n hx hb dX3_score_0 rfl (lv_at hl 1 rfl) ?_
  refine lv_bipush (v := 41) hx hb dX3_score_1 (by decide) ?_
  refine zcV (zrV (As := [.int 41]) (b := a1) (rest := []) C hs hP hS (c_X6_body l D K hO vi va vg hI a1 ha1 hk1 41) m_X6_body wm_X3_9 (zrecv hs hP ha1 (zF_5 hk1) rfl) ⟨by decide, by decide⟩ hl.1 (Nat.le_of_ble_eq_true rfl) dX3_score_3) hS (fun V_1 H locs p_1 hP hS => ?_)
  obtain ⟨vi_1, va_1, vg_1⟩ := V_1
  obtain ⟨hI, hg_1⟩ := p_1
  try dsimp only at hI hg_1
  replace hg_1 := hg_1.symm
  subst hg_1
  refine lv_iconst (v := 1) hx hb dX3_score_6 (by decide) ?_
  exact zaI hQ hx hb hr hlk hP hS ⟨hI, rfl⟩ dX3_score_7
set_option maxHeartbeats 4000000 in
set_option maxRecDepth 100000 in
theorem c_X5_score (l : Launch) (D : va_G) (K : zK) (hO : zOk K) (vi va : Nat → Nat → Int32) (vg : Nat → Nat → Option Nat) (hI : zI K (vi, va, vg)) (a0 : Nat) (ha0 : a0 ∈ zl K) (hk0 : fol K a0) (a1 : Nat) (ha1 : a1 ∈ zl K) (hk1 : zk K a1 = 5) (a2 : Nat) (ha2 : a2 ∈ zl K) (hk2 : zk K a2 = 8) (a3 : Nat) (ha3 : a3 ∈ zl K) (hk3 : zk K a3 = 7) (x4 : Int32) : Met l yX5_score (zc yX5_score cX5_score 7 (some .int)) (rmd 2) (va_Pc [.ref a0, .ref a1, .ref a2, .ref a3, .int x4] (zB D K (vi, va, vg))) (zQi D K (fun r V' => zI K V' ∧ V'.2.2 = vg)) 0 0 (zA K) := by
  refine zin (by decide) (Nat.le_of_ble_eq_true rfl) ?_
  intro p e s m args below meth c ls Q hQ C hr hlk hP hs hl
  have C : CallFix p m c cX5_score 7 s args zw RX5 := C
  obtain ⟨hx, hb, hml, hown, hts⟩ := id C
  have hS : va_S (zA K) s.heap s.heap [] := va_S.rf
  have hl : lv_has ls 7 [(0, .ref a0), (1, .ref a1), (2, .ref a2), (3, .ref a3), (4, .int x4)] := hl
  refine lv_aload_n hx hb dX5_score_0 rfl (lv_at hl 1 rfl) ?_
  refine lv_bipush (v := 42) hx hb dX5_score_1 (by decide) ?_
  refine zcV (zrV (As := [.int 42]) (b := a1) (rest := []) C hs hP hS (c_X6_body l D K hO vi va vg hI a1 ha1 hk1 42) m_X6_body wm_X5_9 (zrecv hs hP ha1 (zF_5 hk1) rfl) ⟨by decide, by decide⟩ hl.1 (Nat.le_of_ble_eq_true rfl) dX5_score_3) hS (fun V_1 H locs p_1 hP hS => ?_)
  obtain ⟨vi_1, va_1, vg_1⟩ := V_1
  obtain ⟨hI, hg_1⟩ := p_1
  try dsimp only at hI hg_1
  replace hg_1 := hg_1.symm
  subst hg_1
  refine lv_aload_n hx hb dX5_score_6 rfl (lv_at hl 0 rfl) ?_
  refine lv_aload_n hx hb dX5_score_7 rfl (lv_at hl 1 rfl) ?_
  refine lv_aload_n hx hb dX5_score_8 rfl (lv_at hl 2 rfl) ?_
  refine lv_aload_n hx hb dX5_score_9 rfl (lv_at hl 3 rfl) ?_
  refine lv_iload hx hb dX5_score_10 (lv_at hl 4 rfl) ?_
  refine zcI (zrSU (As := [.ref a1, .ref a2, .ref a3, .int x4]) (b := a0) (rest := []) C hs hP hS (c_X3_score l D K hO vi_1 va_1 vg hI a0 ha0 hk0 a1 ha1 hk1 a2 ha2 hk2 a3 ha3 hk3 x4) m0_X3_score wi_X3_score wm_X5_37 wq_X3_X3_score wu_X5_X3 (Or.inl rfl) ⟨rfl, rfl⟩ (by decide) (zrecvF hs hP ha0 hk0) ⟨by decide, by decide⟩ hl.1 (Nat.le_of_ble_eq_true rfl) dX5_score_12) hS (fun x_2 V_2 H locs p_2 hP hS => ?_)
  obtain ⟨vi_2, va_2, vg_2⟩ := V_2
  obtain ⟨hI, hg_2⟩ := p_2
  try dsimp only at hI hg_2
  replace hg_2 := hg_2.symm
  subst hg_2
  refine lv_istore (lv' := [(5, .int x_2), (0, .ref a0), (1, .ref a1), (2, .ref a2), (3, .ref a3), (4, .int x4)]) hx hb dX5_score_15 hl (by decide) rfl (fun ls hl => ?_)
  refine lv_iconst (v := 0) hx hb dX5_score_17 (by decide) ?_
  refine lv_istore (lv' := [(6, .int 0), (5, .int x_2), (0, .ref a0), (1, .ref a1), (2, .ref a2), (3, .ref a3), (4, .int x4)]) hx hb dX5_score_18 hl (by decide) rfl (fun ls hl => ?_)
  have L_20_5 : ∀ (n_5 : Nat) (y_3 : Int32) (y_4 : Int32) (ls : Array Slot), (2147483648 - y_3.toInt).toNat < n_5 → 0 ≤ y_3.toInt → lv_has ls 7 [(6, .int y_3), (5, .int y_4), (0, .ref a0), (1, .ref a1), (2, .ref a2), (3, .ref a3), (4, .int x4)] → W p l e (rmd 2) s m args below meth c H locs 0 0 Q (F0 m 20 ls []) := by
    intro n_5
    induction n_5 with
    | zero => intro y_3 y_4 ls hm_5; exact absurd hm_5 (Nat.not_lt_zero _)
    | succ n_5 ih_5 =>
      intro y_3 y_4 ls hm_5 iv_6_0 hl
      refine lv_iload hx hb dX5_score_20 (lv_at hl 0 rfl) ?_
      refine lv_aload_n hx hb dX5_score_22 rfl (lv_at hl 5 rfl) ?_
      refine zg_7_1 C hs hP ha3 hk3 wf_X5_29 dX5_score_23 ?_
      refine bi_ge (tgt := 59) hx hb rfl rfl dX5_score_26 (by decide) (fun c_7 => ?_) (fun c_7 => ?_)
      · skip
        refine lv_iload hx hb dX5_score_59 (lv_at hl 1 rfl) ?_
        exact zaI hQ hx hb hr hlk hP hS ⟨hI, rfl⟩ dX5_score_61
      · skip
        refine lv_iload hx hb dX5_score_29 (lv_at hl 1 rfl) ?_
        refine lv_aload_n hx hb dX5_score_31 rfl (lv_at hl 4 rfl) ?_
        refine lv_aload_n hx hb dX5_score_32 rfl (lv_at hl 5 rfl) ?_
        refine lv_iload hx hb dX5_score_33 (lv_at hl 0 rfl) ?_
        refine zcS (zrV (As := [.int y_3]) (b := a3) (rest := [.ref a2, .int y_4]) C hs hP hS (c_X8_at l D K hO vi_2 va_2 vg hI a3 ha3 hk3 y_3) m_X8_at wm_X5_18 (zrecv hs hP ha3 (zF_7 hk3) rfl) ⟨by decide, by decide⟩ hl.1 (Nat.le_of_ble_eq_true rfl) dX5_score_35) (fun x_8 p_8 => ?_)
        refine zcS (zrV (As := [.int x_8]) (b := a2) (rest := [.int y_4]) C hs hP hS (c_X9_colourOf l D K hO vi_2 va_2 vg hI a2 ha2 hk2 x_8) m_X9_colourOf wm_X5_24 (zrecv hs hP ha2 (zF_8 hk2) rfl) ⟨by decide, by decide⟩ hl.1 (Nat.le_of_ble_eq_true rfl) dX5_score_38) (fun x_9 p_9 => ?_)
        refine lv_iconst (v := 4) hx hb dX5_score_41 (by decide) ?_
        have J_50_12 : ∀ (y_11 : Int32) (ls : Array Slot), (y_11 = 0 ∨ y_11 = 1) → lv_has ls 7 [(0, .ref a0), (1, .ref a1), (2, .ref a2), (3, .ref a3), (4, .int x4), (5, .int y_4), (6, .int y_3)] → W p l e (rmd 2) s m args below meth c H locs 0 0 Q (F0 m 50 ls [.int y_11, .int y_4]) := by
          intro y_11 ls hb_y_11 hl
          refine lv_iadd hx hb dX5_score_50 ?_
          refine lv_topi (fun x_14 ex_14 => ?_)
          refine lv_istore (lv' := [(5, .int x_14), (0, .ref a0), (1, .ref a1), (2, .ref a2), (3, .ref a3), (4, .int x4), (6, .int y_3)]) hx hb dX5_score_51 hl (by decide) rfl (fun ls hl => ?_)
          obtain ⟨x_15, ex_15⟩ : ∃ y : Int32, y = y_3 + 1 := ⟨_, rfl⟩
          refine lv_iinc (v := x_15) (lv' := [(6, .int x_15), (5, .int x_14), (0, .ref a0), (1, .ref a1), (2, .ref a2), (3, .ref a3), (4, .int x4)]) hx hb dX5_score_53 hl (k := 6) rfl (by rw [ex_15]; rfl) (by decide) rfl (fun ls hl => ?_)
          refine lv_goto (tgt := 20) hx hb dX5_score_56 (by decide) ?_
          have g_16 := z_rng y_3
          obtain ⟨f_15, l_15, u_15⟩ := z_add ex_15 rfl ti_1
          have g_17 := z_rng y_4
          have g_18 := z_rng y_11
          obtain ⟨f_14, l_14, u_14⟩ := z_add ex_14 rfl rfl
          have g_19 := z_rng (vi_2 a3 1)
          exact ih_5 x_15 x_14 _ (by omega) (by omega) (lv_sub hl [0, 1, 2, 3, 4, 5, 6] rfl)
        refine bi_ne (tgt := 49) hx hb rfl ti_4 dX5_score_42 (by decide) (fun c_10 => ?_) (fun c_10 => ?_)
        · skip
          refine lv_iconst (v := 0) hx hb dX5_score_49 (by decide) ?_
          exact J_50_12 0 _ (Or.inl rfl) (lv_sub hl [2, 3, 4, 5, 6, 1, 0] rfl)
        · skip
          refine lv_iconst (v := 1) hx hb dX5_score_45 (by decide) ?_
          refine lv_goto (tgt := 50) hx hb dX5_score_46 (by decide) ?_
          exact J_50_12 1 _ (Or.inr rfl) (lv_sub hl [2, 3, 4, 5, 6, 1, 0] rfl)
  have g_20 := z_rng x_2
  exact L_20_5 _ 0 x_2 _ (Nat.lt_succ_self _) (by simp only [ti_0]; omega) (lv_sub hl [0, 1, 2, 3, 4, 5, 6] rfl)
set_option maxHeartbeats 4000000 in
set_option maxRecDepth 100000 in
theorem c_X10_score (l : Launch) (D : va_G) (K : zK) (hO : zOk K) (vi va : Nat → Nat → Int32) (vg : Nat → Nat → Option Nat) (hI : zI K (vi, va, vg)) (a0 : Nat) (ha0 : a0 ∈ zl K) (hk0 : zk K a0 = 9) (a1 : Nat) (ha1 : a1 ∈ zl K) (hk1 : zk K a1 = 5) (a2 : Nat) (ha2 : a2 ∈ zl K) (hk2 : zk K a2 = 8) (a3 : Nat) (ha3 : a3 ∈ zl K) (hk3 : zk K a3 = 7) (x4 : Int32) : Met l yX10_score (zc yX10_score cX10_score 7 (some .int)) (rmd 1) (va_Pc [.ref a0, .ref a1, .ref a2, .ref a3, .int x4] (zB D K (vi, va, vg))) (zQi D K (fun r V' => zI K V' ∧ V'.2.2 = vg)) 0 0 (zA K) := by
  refine zin (by decide) (Nat.le_of_ble_eq_true rfl) ?_
  intro p e s m args below meth c ls Q hQ C hr hlk hP hs hl
  have C : CallFix p m c cX10_score 7 s args zw RX10 := C
  obtain ⟨hx, hb, hml, hown, hts⟩ := id C
  have hS : va_S (zA K) s.heap s.heap [] := va_S.rf
  have hl : lv_has ls 7 [(0, .ref a0), (1, .ref a1), (2, .ref a2), (3, .ref a3), (4, .int x4)] := hl
  refine lv_aload_n hx hb dX10_score_0 rfl (lv_at hl 1 rfl) ?_
  refine lv_bipush (v := 43) hx hb dX10_score_1 (by decide) ?_
  refine zcV (zrV (As := [.int 43]) (b := a1) (rest := []) C hs hP hS (c_X6_body l D K hO vi va vg hI a1 ha1 hk1 43) m_X6_body wm_X10_9 (zrecv hs hP ha1 (zF_5 hk1) rfl) ⟨by decide, by decide⟩ hl.1 (Nat.le_of_ble_eq_true rfl) dX10_score_3) hS (fun V_1 H locs p_1 hP hS => ?_)
  obtain ⟨vi_1, va_1, vg_1⟩ := V_1
  obtain ⟨hI, hg_1⟩ := p_1
  try dsimp only at hI hg_1
  replace hg_1 := hg_1.symm
  subst hg_1
  refine lv_iconst (v := 0) hx hb dX10_score_6 (by decide) ?_
  refine lv_istore (lv' := [(5, .int 0), (0, .ref a0), (1, .ref a1), (2, .ref a2), (3, .ref a3), (4, .int x4)]) hx hb dX10_score_7 hl (by decide) rfl (fun ls hl => ?_)
  refine lv_iconst (v := 0) hx hb dX10_score_9 (by decide) ?_
  refine lv_istore (lv' := [(6, .int 0), (5, .int 0), (0, .ref a0), (1, .ref a1), (2, .ref a2), (3, .ref a3), (4, .int x4)]) hx hb dX10_score_10 hl (by decide) rfl (fun ls hl => ?_)
  have L_12_4 : ∀ (n_4 : Nat) (y_2 : Int32) (y_3 : Int32) (ls : Array Slot), (2147483648 - y_2.toInt).toNat < n_4 → 0 ≤ y_2.toInt → lv_has ls 7 [(6, .int y_2), (5, .int y_3), (0, .ref a0), (1, .ref a1), (2, .ref a2), (3, .ref a3), (4, .int x4)] → W p l e (rmd 1) s m args below meth c H locs 0 0 Q (F0 m 12 ls []) := by
    intro n_4
    induction n_4 with
    | zero => intro y_2 y_3 ls hm_4; exact absurd hm_4 (Nat.not_lt_zero _)
    | succ n_4 ih_4 =>
      intro y_2 y_3 ls hm_4 iv_5_0 hl
      refine lv_iload hx hb dX10_score_12 (lv_at hl 0 rfl) ?_
      refine lv_aload_n hx hb dX10_score_14 rfl (lv_at hl 5 rfl) ?_
      refine zg_7_1 C hs hP ha3 hk3 wf_X10_18 dX10_score_15 ?_
      refine bi_ge (tgt := 49) hx hb rfl rfl dX10_score_18 (by decide) (fun c_6 => ?_) (fun c_6 => ?_)
      · skip
        refine lv_iload hx hb dX10_score_49 (lv_at hl 1 rfl) ?_
        exact zaI hQ hx hb hr hlk hP hS ⟨hI, rfl⟩ dX10_score_51
      · skip
        refine lv_iload hx hb dX10_score_21 (lv_at hl 1 rfl) ?_
        refine lv_aload_n hx hb dX10_score_23 rfl (lv_at hl 5 rfl) ?_
        refine lv_iload hx hb dX10_score_24 (lv_at hl 0 rfl) ?_
        refine zcS (zrV (As := [.int y_2]) (b := a3) (rest := [.int y_3]) C hs hP hS (c_X8_at l D K hO vi_1 va_1 vg hI a3 ha3 hk3 y_2) m_X8_at wm_X10_30 (zrecv hs hP ha3 (zF_7 hk3) rfl) ⟨by decide, by decide⟩ hl.1 (Nat.le_of_ble_eq_true rfl) dX10_score_26) (fun x_7 p_7 => ?_)
        refine lv_iconst (v := 3) hx hb dX10_score_29 (by decide) ?_
        refine lv_iand hx hb dX10_score_30 ?_
        refine lv_topi (fun x_8 ex_8 => ?_)
        refine lv_iconst (v := 3) hx hb dX10_score_31 (by decide) ?_
        have J_40_11 : ∀ (y_10 : Int32) (ls : Array Slot), (y_10 = 0 ∨ y_10 = 1) → lv_has ls 7 [(0, .ref a0), (1, .ref a1), (2, .ref a2), (3, .ref a3), (4, .int x4), (5, .int y_3), (6, .int y_2)] → W p l e (rmd 1) s m args below meth c H locs 0 0 Q (F0 m 40 ls [.int y_10, .int y_3]) := by
          intro y_10 ls hb_y_10 hl
          refine lv_isub hx hb dX10_score_40 ?_
          refine lv_topi (fun x_13 ex_13 => ?_)
          refine lv_istore (lv' := [(5, .int x_13), (0, .ref a0), (1, .ref a1), (2, .ref a2), (3, .ref a3), (4, .int x4), (6, .int y_2)]) hx hb dX10_score_41 hl (by decide) rfl (fun ls hl => ?_)
          obtain ⟨x_14, ex_14⟩ : ∃ y : Int32, y = y_2 + 1 := ⟨_, rfl⟩
          refine lv_iinc (v := x_14) (lv' := [(6, .int x_14), (5, .int x_13), (0, .ref a0), (1, .ref a1), (2, .ref a2), (3, .ref a3), (4, .int x4)]) hx hb dX10_score_43 hl (k := 6) rfl (by rw [ex_14]; rfl) (by decide) rfl (fun ls hl => ?_)
          refine lv_goto (tgt := 12) hx hb dX10_score_46 (by decide) ?_
          have g_15 := z_rng y_2
          obtain ⟨f_14, l_14, u_14⟩ := z_add ex_14 rfl ti_1
          have g_16 := z_rng y_3
          have g_17 := z_rng y_10
          obtain ⟨f_13, l_13, u_13⟩ := z_sub ex_13 rfl rfl
          have g_18 := z_rng (vi_1 a3 1)
          exact ih_4 x_14 x_13 _ (by omega) (by omega) (lv_sub hl [0, 1, 2, 3, 4, 5, 6] rfl)
        refine bi_ne (tgt := 39) hx hb rfl ti_3 dX10_score_32 (by decide) (fun c_9 => ?_) (fun c_9 => ?_)
        · skip
          refine lv_iconst (v := 0) hx hb dX10_score_39 (by decide) ?_
          exact J_40_11 0 _ (Or.inl rfl) (lv_sub hl [2, 3, 4, 5, 6, 1, 0] rfl)
        · skip
          refine lv_iconst (v := 1) hx hb dX10_score_35 (by decide) ?_
          refine lv_goto (tgt := 40) hx hb dX10_score_36 (by decide) ?_
          exact J_40_11 1 _ (Or.inr rfl) (lv_sub hl [2, 3, 4, 5, 6, 1, 0] rfl)
  exact L_12_4 _ 0 0 _ (Nat.lt_succ_self _) (by simp only [ti_0, ti_0]; omega) (lv_sub hl [0, 1, 2, 3, 4, 5, 6] rfl)
set_option maxHeartbeats 4000000 in
set_option maxRecDepth 100000 in
theorem c_X0_score (l : Launch) (D : va_G) (K : zK) (hO : zOk K) (vi va : Nat → Nat → Int32) (vg : Nat → Nat → Option Nat) (hI : zI K (vi, va, vg)) (a0 : Nat) (ha0 : a0 ∈ zl K) (hk0 : zk K a0 = 0) (a1 : Nat) (ha1 : a1 ∈ zl K) (hk1 : zk K a1 = 5) (a2 : Nat) (ha2 : a2 ∈ zl K) (hk2 : zk K a2 = 8) (a3 : Nat) (ha3 : a3 ∈ zl K) (hk3 : zk K a3 = 7) (x4 : Int32) : Met l yX0_score (zc yX0_score cX0_score 6 (some .int)) (rmd 3) (va_Pc [.ref a0, .ref a1, .ref a2, .ref a3, .int x4] (zB D K (vi, va, vg))) (zQi D K (fun r V' => zI K V' ∧ V'.2.2 = vg)) 0 0 (zA K) := by
  refine zin (by decide) (Nat.le_of_ble_eq_true rfl) ?_
  intro p e s m args below meth c ls Q hQ C hr hlk hP hs hl
  have C : CallFix p m c cX0_score 6 s args zw RX0 := C
  obtain ⟨hx, hb, hml, hown, hts⟩ := id C
  have hS : va_S (zA K) s.heap s.heap [] := va_S.rf
  have hl : lv_has ls 6 [(0, .ref a0), (1, .ref a1), (2, .ref a2), (3, .ref a3), (4, .int x4)] := hl
  refine lv_aload_n hx hb dX0_score_0 rfl (lv_at hl 1 rfl) ?_
  refine lv_bipush (v := 44) hx hb dX0_score_1 (by decide) ?_
  refine zcV (zrV (As := [.int 44]) (b := a1) (rest := []) C hs hP hS (c_X6_body l D K hO vi va vg hI a1 ha1 hk1 44) m_X6_body wm_X0_9 (zrecv hs hP ha1 (zF_5 hk1) rfl) ⟨by decide, by decide⟩ hl.1 (Nat.le_of_ble_eq_true rfl) dX0_score_3) hS (fun V_1 H locs p_1 hP hS => ?_)
  obtain ⟨vi_1, va_1, vg_1⟩ := V_1
  obtain ⟨hI, hg_1⟩ := p_1
  try dsimp only at hI hg_1
  replace hg_1 := hg_1.symm
  subst hg_1
  refine lv_aload_n hx hb dX0_score_6 rfl (lv_at hl 0 rfl) ?_
  refine lv_aload_n hx hb dX0_score_7 rfl (lv_at hl 1 rfl) ?_
  refine lv_aload_n hx hb dX0_score_8 rfl (lv_at hl 2 rfl) ?_
  refine lv_aload_n hx hb dX0_score_9 rfl (lv_at hl 3 rfl) ?_
  refine lv_iload hx hb dX0_score_10 (lv_at hl 4 rfl) ?_
  refine zcI (zrSU (As := [.ref a1, .ref a2, .ref a3, .int x4]) (b := a0) (rest := []) C hs hP hS (c_X5_score l D K hO vi_1 va_1 vg hI a0 ha0 (Or.inl hk0) a1 ha1 hk1 a2 ha2 hk2 a3 ha3 hk3 x4) m0_X5_score wi_X5_score wm_X0_38 wq_X5_X5_score wu_X0_X5 (Or.inl rfl) ⟨rfl, rfl⟩ (by decide) (zrecvF hs hP ha0 (Or.inl hk0)) ⟨by decide, by decide⟩ hl.1 (Nat.le_of_ble_eq_true rfl) dX0_score_12) hS (fun x_2 V_2 H locs p_2 hP hS => ?_)
  obtain ⟨vi_2, va_2, vg_2⟩ := V_2
  obtain ⟨hI, hg_2⟩ := p_2
  try dsimp only at hI hg_2
  replace hg_2 := hg_2.symm
  subst hg_2
  refine lv_istore (lv' := [(5, .int x_2), (0, .ref a0), (1, .ref a1), (2, .ref a2), (3, .ref a3), (4, .int x4)]) hx hb dX0_score_15 hl (by decide) rfl (fun ls hl => ?_)
  refine lv_iload hx hb dX0_score_17 (lv_at hl 5 rfl) ?_
  refine lv_iconst (v := 3) hx hb dX0_score_19 (by decide) ?_
  refine lv_iand hx hb dX0_score_20 ?_
  refine lv_topi (fun x_3 ex_3 => ?_)
  refine lv_aload_n hx hb dX0_score_21 rfl (lv_at hl 3 rfl) ?_
  refine zg_8_13 C hs hP ha2 hk2 wf_X0_14 dX0_score_22 ?_
  have hf_4 := hO.r (j := 13) ha2 hk2 (rfl : zX 8 13 = some (1, 0))
  refine zg_1_5 C hs hP hf_4.1 hf_4.2.1 wf_X0_20 dX0_score_25 ?_
  refine bi_ne (tgt := 38) hx hb rfl rfl dX0_score_28 (by decide) (fun c_5 => ?_) (fun c_5 => ?_)
  · skip
    refine lv_iload hx hb dX0_score_38 (lv_at hl 0 rfl) ?_
    exact zaI hQ hx hb hr hlk hP hS ⟨hI, rfl⟩ dX0_score_40
  · skip
    refine lv_iconst (v := 2) hx hb dX0_score_31 (by decide) ?_
    refine lv_iload hx hb dX0_score_32 (lv_at hl 0 rfl) ?_
    refine lv_imul hx hb dX0_score_34 ?_
    refine lv_topi (fun x_6 ex_6 => ?_)
    refine lv_goto (tgt := 40) hx hb dX0_score_35 (by decide) ?_
    exact zaI hQ hx hb hr hlk hP hS ⟨hI, rfl⟩ dX0_score_40
set_option maxHeartbeats 4000000 in
set_option maxRecDepth 100000 in
theorem c_X7_score (l : Launch) (D : va_G) (K : zK) (hO : zOk K) (vi va : Nat → Nat → Int32) (vg : Nat → Nat → Option Nat) (hI : zI K (vi, va, vg)) (a0 : Nat) (ha0 : a0 ∈ zl K) (hk0 : zk K a0 = 6) (a1 : Nat) (ha1 : a1 ∈ zl K) (hk1 : zk K a1 = 5) (a2 : Nat) (ha2 : a2 ∈ zl K) (hk2 : zk K a2 = 8) (a3 : Nat) (ha3 : a3 ∈ zl K) (hk3 : zk K a3 = 7) (x4 : Int32) : Met l yX7_score (zc yX7_score cX7_score 5 (some .int)) (rmd 4) (va_Pc [.ref a0, .ref a1, .ref a2, .ref a3, .int x4] (zB D K (vi, va, vg))) (zQi D K (fun r V' => zI K V' ∧ V'.2.2 = vg)) 0 0 (zA K) := by
  refine zin (by decide) (Nat.le_of_ble_eq_true rfl) ?_
  intro p e s m args below meth c ls Q hQ C hr hlk hP hs hl
  have C : CallFix p m c cX7_score 5 s args zw RX7 := C
  obtain ⟨hx, hb, hml, hown, hts⟩ := id C
  have hS : va_S (zA K) s.heap s.heap [] := va_S.rf
  have hl : lv_has ls 5 [(0, .ref a0), (1, .ref a1), (2, .ref a2), (3, .ref a3), (4, .int x4)] := hl
  refine lv_aload_n hx hb dX7_score_0 rfl (lv_at hl 1 rfl) ?_
  refine lv_bipush (v := 45) hx hb dX7_score_1 (by decide) ?_
  refine zcV (zrV (As := [.int 45]) (b := a1) (rest := []) C hs hP hS (c_X6_body l D K hO vi va vg hI a1 ha1 hk1 45) m_X6_body wm_X7_18 (zrecv hs hP ha1 (zF_5 hk1) rfl) ⟨by decide, by decide⟩ hl.1 (Nat.le_of_ble_eq_true rfl) dX7_score_3) hS (fun V_1 H locs p_1 hP hS => ?_)
  obtain ⟨vi_1, va_1, vg_1⟩ := V_1
  obtain ⟨hI, hg_1⟩ := p_1
  try dsimp only at hI hg_1
  replace hg_1 := hg_1.symm
  subst hg_1
  refine lv_aload_n hx hb dX7_score_6 rfl (lv_at hl 0 rfl) ?_
  refine zg_6_2 C hs hP ha0 hk0 wf_X7_15 dX7_score_7 ?_
  have hf_2 := hO.2.2.2.2.2.1 _ ha0 hk0 2 (Or.inr rfl)
  refine lv_aload_n hx hb dX7_score_10 rfl (lv_at hl 1 rfl) ?_
  refine lv_aload_n hx hb dX7_score_11 rfl (lv_at hl 2 rfl) ?_
  refine lv_aload_n hx hb dX7_score_12 rfl (lv_at hl 3 rfl) ?_
  refine lv_iload hx hb dX7_score_13 (lv_at hl 4 rfl) ?_
  have run_3 : va_Run p l e (rmd 4) s m args below meth c H locs 0 0 0 0 (F0 m 15 ls [.int x4, .ref a3, .ref a2, .ref a1, .ref (zr K a0 2)]) [] ((zQi D K (fun r V' => zI K V' ∧ V'.2.2 = vg)) ([.ref (zr K a0 2), .ref a1, .ref a2, .ref a3, .int x4] : List Value).toArray) (zA K) := by
    rcases hf_2.2 with h9 | h9 | h9 | h9
    · exact zrUO (Cn := RX0) (As := [.ref a1, .ref a2, .ref a3, .int x4]) (b := zr K a0 2) (rest := []) C hs hP hS (c_X0_score l D K hO vi_1 va_1 vg hI (zr K a0 2) hf_2.1 h9 a1 ha1 hk1 a2 ha2 hk2 a3 ha3 hk3 x4) m0_X0_score wi_X0_score wm_X7_39 wq_X3_X3_score we_X0_X3_score wo_X3_score wi_X3_score ⟨by decide, by decide⟩ rfl (zrecv hs hP hf_2.1 (zF_0 h9) rfl) ⟨by decide, by decide⟩ hl.1 (Nat.le_of_ble_eq_true rfl) dX7_score_15
    · exact zrV (As := [.ref a1, .ref a2, .ref a3, .int x4]) (b := zr K a0 2) (rest := []) C hs hP hS (c_X3_score l D K hO vi_1 va_1 vg hI (zr K a0 2) hf_2.1 (Or.inr (Or.inl h9)) a1 ha1 hk1 a2 ha2 hk2 a3 ha3 hk3 x4) m_X3_score wm_X7_39 (zrecv hs hP hf_2.1 (zF_3 h9) rfl) ⟨by decide, by decide⟩ hl.1 (Nat.le_of_ble_eq_true rfl) dX7_score_15
    · exact zrUO (Cn := RX5) (As := [.ref a1, .ref a2, .ref a3, .int x4]) (b := zr K a0 2) (rest := []) C hs hP hS (c_X5_score l D K hO vi_1 va_1 vg hI (zr K a0 2) hf_2.1 (Or.inr (Or.inr (Or.inl h9))) a1 ha1 hk1 a2 ha2 hk2 a3 ha3 hk3 x4) m0_X5_score wi_X5_score wm_X7_39 wq_X3_X3_score we_X5_X3_score wo_X3_score wi_X3_score ⟨by decide, by decide⟩ rfl (zrecv hs hP hf_2.1 (zF_4 h9) rfl) ⟨by decide, by decide⟩ hl.1 (Nat.le_of_ble_eq_true rfl) dX7_score_15
    · exact zrUO (Cn := RX10) (As := [.ref a1, .ref a2, .ref a3, .int x4]) (b := zr K a0 2) (rest := []) C hs hP hS (c_X10_score l D K hO vi_1 va_1 vg hI (zr K a0 2) hf_2.1 h9 a1 ha1 hk1 a2 ha2 hk2 a3 ha3 hk3 x4) m0_X10_score wi_X10_score wm_X7_39 wq_X3_X3_score we_X10_X3_score wo_X3_score wi_X3_score ⟨by decide, by decide⟩ rfl (zrecv hs hP hf_2.1 (zF_9 h9) rfl) ⟨by decide, by decide⟩ hl.1 (Nat.le_of_ble_eq_true rfl) dX7_score_15
  refine zcI run_3 hS (fun x_4 V_4 H locs p_4 hP hS => ?_)
  obtain ⟨vi_4, va_4, vg_4⟩ := V_4
  obtain ⟨hI, hg_4⟩ := p_4
  try dsimp only at hI hg_4
  replace hg_4 := hg_4.symm
  subst hg_4
  refine lv_iconst (v := 1) hx hb dX7_score_18 (by decide) ?_
  refine lv_iadd hx hb dX7_score_19 ?_
  refine lv_topi (fun x_5 ex_5 => ?_)
  exact zaI hQ hx hb hr hlk hP hS ⟨hI, rfl⟩ dX7_score_20
set_option maxHeartbeats 4000000 in
set_option maxRecDepth 100000 in
theorem c_X3_settle (l : Launch) (D : va_G) (K : zK) (hO : zOk K) (vi va : Nat → Nat → Int32) (vg : Nat → Nat → Option Nat) (hI : zI K (vi, va, vg)) (a0 : Nat) (ha0 : a0 ∈ zl K) (hk0 : fol K a0) (a1 : Nat) (ha1 : a1 ∈ zl K) (hk1 : zk K a1 = 5) (a2 : Nat) (ha2 : a2 ∈ zl K) (hk2 : zk K a2 = 1) (x3 : Int32) (x4 : Int32) : Met l yX3_settle (zc yX3_settle cX3_settle 5 (some .int)) (rmd 1) (va_Pc [.ref a0, .ref a1, .ref a2, .int x3, .int x4] (zB D K (vi, va, vg))) (zQi D K (fun r V' => zI K V' ∧ V'.2.2 = vg)) 0 0 (zA K) := by
  refine zin (by decide) (Nat.le_of_ble_eq_true rfl) ?_
  intro p e s m args below meth c ls Q hQ C hr hlk hP hs hl
  have C : CallFix p m c cX3_settle 5 s args zw RX3 := C
  obtain ⟨hx, hb, hml, hown, hts⟩ := id C
  have hS : va_S (zA K) s.heap s.heap [] := va_S.rf
  have hl : lv_has ls 5 [(0, .ref a0), (1, .ref a1), (2, .ref a2), (3, .int x3), (4, .int x4)] := hl
  refine lv_aload_n hx hb dX3_settle_0 rfl (lv_at hl 1 rfl) ?_
  refine lv_bipush (v := 51) hx hb dX3_settle_1 (by decide) ?_
  refine zcV (zrV (As := [.int 51]) (b := a1) (rest := []) C hs hP hS (c_X6_body l D K hO vi va vg hI a1 ha1 hk1 51) m_X6_body wm_X3_9 (zrecv hs hP ha1 (zF_5 hk1) rfl) ⟨by decide, by decide⟩ hl.1 (Nat.le_of_ble_eq_true rfl) dX3_settle_3) hS (fun V_1 H locs p_1 hP hS => ?_)
  obtain ⟨vi_1, va_1, vg_1⟩ := V_1
  obtain ⟨hI, hg_1⟩ := p_1
  try dsimp only at hI hg_1
  replace hg_1 := hg_1.symm
  subst hg_1
  refine lv_iload hx hb dX3_settle_6 (lv_at hl 4 rfl) ?_
  refine lv_aload_n hx hb dX3_settle_8 rfl (lv_at hl 2 rfl) ?_
  refine zg_1_7 C hs hP ha2 hk2 wf_X3_37 dX3_settle_9 ?_
  refine lv_ishl hx hb dX3_settle_12 ?_
  refine lv_topi (fun x_2 ex_2 => ?_)
  exact zaI hQ hx hb hr hlk hP hS ⟨hI, rfl⟩ dX3_settle_13
set_option maxHeartbeats 4000000 in
set_option maxRecDepth 100000 in
theorem c_X0_settle (l : Launch) (D : va_G) (K : zK) (hO : zOk K) (vi va : Nat → Nat → Int32) (vg : Nat → Nat → Option Nat) (hI : zI K (vi, va, vg)) (a0 : Nat) (ha0 : a0 ∈ zl K) (hk0 : zk K a0 = 0) (a1 : Nat) (ha1 : a1 ∈ zl K) (hk1 : zk K a1 = 5) (a2 : Nat) (ha2 : a2 ∈ zl K) (hk2 : zk K a2 = 1) (x3 : Int32) (x4 : Int32) : Met l yX0_settle (zc yX0_settle cX0_settle 7 (some .int)) (rmd 2) (va_Pc [.ref a0, .ref a1, .ref a2, .int x3, .int x4] (zB D K (vi, va, vg))) (zQi D K (fun r V' => zI K V' ∧ V'.2.2 = vg)) 0 0 (zA K) := by
  refine zin (by decide) (Nat.le_of_ble_eq_true rfl) ?_
  intro p e s m args below meth c ls Q hQ C hr hlk hP hs hl
  have C : CallFix p m c cX0_settle 7 s args zw RX0 := C
  obtain ⟨hx, hb, hml, hown, hts⟩ := id C
  have hS : va_S (zA K) s.heap s.heap [] := va_S.rf
  have hl : lv_has ls 7 [(0, .ref a0), (1, .ref a1), (2, .ref a2), (3, .int x3), (4, .int x4)] := hl
  refine lv_aload_n hx hb dX0_settle_0 rfl (lv_at hl 1 rfl) ?_
  refine lv_bipush (v := 52) hx hb dX0_settle_1 (by decide) ?_
  refine zcV (zrV (As := [.int 52]) (b := a1) (rest := []) C hs hP hS (c_X6_body l D K hO vi va vg hI a1 ha1 hk1 52) m_X6_body wm_X0_9 (zrecv hs hP ha1 (zF_5 hk1) rfl) ⟨by decide, by decide⟩ hl.1 (Nat.le_of_ble_eq_true rfl) dX0_settle_3) hS (fun V_1 H locs p_1 hP hS => ?_)
  obtain ⟨vi_1, va_1, vg_1⟩ := V_1
  obtain ⟨hI, hg_1⟩ := p_1
  try dsimp only at hI hg_1
  replace hg_1 := hg_1.symm
  subst hg_1
  refine lv_iload hx hb dX0_settle_6 (lv_at hl 4 rfl) ?_
  refine lv_istore (lv' := [(5, .int x4), (0, .ref a0), (1, .ref a1), (2, .ref a2), (3, .int x3), (4, .int x4)]) hx hb dX0_settle_8 hl (by decide) rfl (fun ls hl => ?_)
  refine lv_aload_n hx hb dX0_settle_10 rfl (lv_at hl 3 rfl) ?_
  refine zg_1_4 C hs hP ha2 hk2 wf_X0_42 dX0_settle_11 ?_
  refine bz_le (tgt := 70) hx hb rfl dX0_settle_14 (by decide) (fun c_2 => ?_) (fun c_2 => ?_)
  · skip
    refine lv_aload_n hx hb dX0_settle_70 rfl (lv_at hl 1 rfl) ?_
    refine lv_aload_n hx hb dX0_settle_71 rfl (lv_at hl 2 rfl) ?_
    refine lv_aload_n hx hb dX0_settle_72 rfl (lv_at hl 3 rfl) ?_
    refine lv_iload_n hx hb dX0_settle_73 rfl (lv_at hl 4 rfl) ?_
    refine lv_iload hx hb dX0_settle_74 (lv_at hl 0 rfl) ?_
    refine zcI (zrSU (As := [.ref a1, .ref a2, .int x3, .int x4]) (b := a0) (rest := []) C hs hP hS (c_X3_settle l D K hO vi_1 va_1 vg hI a0 ha0 (Or.inl hk0) a1 ha1 hk1 a2 ha2 hk2 x3 x4) m0_X3_settle wi_X3_settle wm_X0_52 wq_X5_X3_settle wu_X0_X5 (Or.inr wu_X5_X3) ⟨rfl, rfl⟩ (by decide) (zrecvF hs hP ha0 (Or.inl hk0)) ⟨by decide, by decide⟩ hl.1 (Nat.le_of_ble_eq_true rfl) dX0_settle_76) hS (fun x_3 V_3 H locs p_3 hP hS => ?_)
    obtain ⟨vi_3, va_3, vg_3⟩ := V_3
    obtain ⟨hI, hg_3⟩ := p_3
    try dsimp only at hI hg_3
    replace hg_3 := hg_3.symm
    subst hg_3
    exact zaI hQ hx hb hr hlk hP hS ⟨hI, rfl⟩ dX0_settle_79
  · skip
    refine lv_iload_n hx hb dX0_settle_17 rfl (lv_at hl 4 rfl) ?_
    refine lv_aload_n hx hb dX0_settle_18 rfl (lv_at hl 3 rfl) ?_
    refine zg_1_6 C hs hP ha2 hk2 wf_X0_45 dX0_settle_19 ?_
    refine lv_iconst (v := 1) hx hb dX0_settle_22 (by decide) ?_
    refine lv_iand hx hb dX0_settle_23 ?_
    refine lv_topi (fun x_4 ex_4 => ?_)
    refine bi_ne (tgt := 70) hx hb rfl rfl dX0_settle_24 (by decide) (fun c_5 => ?_) (fun c_5 => ?_)
    · skip
      refine lv_aload_n hx hb dX0_settle_70 rfl (lv_at hl 1 rfl) ?_
      refine lv_aload_n hx hb dX0_settle_71 rfl (lv_at hl 2 rfl) ?_
      refine lv_aload_n hx hb dX0_settle_72 rfl (lv_at hl 3 rfl) ?_
      refine lv_iload_n hx hb dX0_settle_73 rfl (lv_at hl 4 rfl) ?_
      refine lv_iload hx hb dX0_settle_74 (lv_at hl 0 rfl) ?_
      refine zcI (zrSU (As := [.ref a1, .ref a2, .int x3, .int x4]) (b := a0) (rest := []) C hs hP hS (c_X3_settle l D K hO vi_1 va_1 vg hI a0 ha0 (Or.inl hk0) a1 ha1 hk1 a2 ha2 hk2 x3 x4) m0_X3_settle wi_X3_settle wm_X0_52 wq_X5_X3_settle wu_X0_X5 (Or.inr wu_X5_X3) ⟨rfl, rfl⟩ (by decide) (zrecvF hs hP ha0 (Or.inl hk0)) ⟨by decide, by decide⟩ hl.1 (Nat.le_of_ble_eq_true rfl) dX0_settle_76) hS (fun x_6 V_6 H locs p_6 hP hS => ?_)
      obtain ⟨vi_6, va_6, vg_6⟩ := V_6
      obtain ⟨hI, hg_6⟩ := p_6
      try dsimp only at hI hg_6
      replace hg_6 := hg_6.symm
      subst hg_6
      exact zaI hQ hx hb hr hlk hP hS ⟨hI, rfl⟩ dX0_settle_79
    · skip
      refine lv_aload_n hx hb dX0_settle_27 rfl (lv_at hl 3 rfl) ?_
      refine zg_1_11 C hs hP ha2 hk2 wf_X0_48 dX0_settle_28 ?_
      have hf_7 := hO.r (j := 11) ha2 hk2 (rfl : zX 1 11 = some (20, 2))
      refine lv_aload_n hx hb dX0_settle_31 rfl (lv_at hl 3 rfl) ?_
      refine zg_1_6 C hs hP ha2 hk2 wf_X0_45 dX0_settle_32 ?_
      refine lv_iconst (v := 1) hx hb dX0_settle_35 (by decide) ?_
      refine lv_iand hx hb dX0_settle_36 ?_
      refine lv_topi (fun x_8 ex_8 => ?_)
      have f_8 := z_and ex_8 ti_1 (by decide)
      have f_4 := z_and ex_4 ti_1 (by decide)
      have hin_9 : vp_in x_8 (zn K (zr K a2 11)) := vp_in_iff.mpr (by rw [(hf_7.2.2 (by decide))]; refine ⟨?_, ?_⟩ <;> omega)
      refine zld_20 C hs hP hf_7.1 hf_7.2.1 hin_9 dX0_settle_37 ?_
      refine lv_aload_n hx hb dX0_settle_38 rfl (lv_at hl 3 rfl) ?_
      refine zg_1_4 C hs hP ha2 hk2 wf_X0_42 dX0_settle_39 ?_
      refine lv_isub hx hb dX0_settle_42 ?_
      refine lv_topi (fun x_10 ex_10 => ?_)
      refine lv_istore (lv' := [(6, .int x_10), (5, .int x4), (0, .ref a0), (1, .ref a1), (2, .ref a2), (3, .int x3), (4, .int x4)]) hx hb dX0_settle_43 hl (by decide) rfl (fun ls hl => ?_)
      refine lv_iload hx hb dX0_settle_45 (lv_at hl 0 rfl) ?_
      have J_68_16 : ∀ (y_15 : Int32) (ls : Array Slot), lv_has ls 7 [(0, .ref a0), (1, .ref a1), (2, .ref a2), (3, .int x3), (4, .int x4), (5, .int x4), (6, .int x_10)] → W p l e (rmd 2) s m args below meth c H locs 0 0 Q (F0 m 68 ls [.int y_15]) := by
        intro y_15 ls hl
        refine lv_istore (lv' := [(5, .int y_15), (0, .ref a0), (1, .ref a1), (2, .ref a2), (3, .int x3), (4, .int x4), (6, .int x_10)]) hx hb dX0_settle_68 hl (by decide) rfl (fun ls hl => ?_)
        refine lv_aload_n hx hb dX0_settle_70 rfl (lv_at hl 1 rfl) ?_
        refine lv_aload_n hx hb dX0_settle_71 rfl (lv_at hl 2 rfl) ?_
        refine lv_aload_n hx hb dX0_settle_72 rfl (lv_at hl 3 rfl) ?_
        refine lv_iload_n hx hb dX0_settle_73 rfl (lv_at hl 4 rfl) ?_
        refine lv_iload hx hb dX0_settle_74 (lv_at hl 0 rfl) ?_
        refine zcI (zrSU (As := [.ref a1, .ref a2, .int x3, .int y_15]) (b := a0) (rest := []) C hs hP hS (c_X3_settle l D K hO vi_1 va_1 vg hI a0 ha0 (Or.inl hk0) a1 ha1 hk1 a2 ha2 hk2 x3 y_15) m0_X3_settle wi_X3_settle wm_X0_52 wq_X5_X3_settle wu_X0_X5 (Or.inr wu_X5_X3) ⟨rfl, rfl⟩ (by decide) (zrecvF hs hP ha0 (Or.inl hk0)) ⟨by decide, by decide⟩ hl.1 (Nat.le_of_ble_eq_true rfl) dX0_settle_76) hS (fun x_18 V_18 H locs p_18 hP hS => ?_)
        obtain ⟨vi_18, va_18, vg_18⟩ := V_18
        obtain ⟨hI, hg_18⟩ := p_18
        try dsimp only at hI hg_18
        replace hg_18 := hg_18.symm
        subst hg_18
        exact zaI hQ hx hb hr hlk hP hS ⟨hI, rfl⟩ dX0_settle_79
      refine bz_lt (tgt := 63) hx hb rfl dX0_settle_47 (by decide) (fun c_11 => ?_) (fun c_11 => ?_)
      · skip
        refine lv_bipush (v := 10) hx hb dX0_settle_63 (by decide) ?_
        refine lv_iload hx hb dX0_settle_65 (lv_at hl 0 rfl) ?_
        refine lv_imul hx hb dX0_settle_67 ?_
        refine lv_topi (fun x_19 ex_19 => ?_)
        exact J_68_16 x_19 _ (lv_sub hl [2, 3, 4, 5, 6, 1, 0] rfl)
      · skip
        refine lv_iload hx hb dX0_settle_50 (lv_at hl 6 rfl) ?_
        refine lv_bipush (v := 10) hx hb dX0_settle_52 (by decide) ?_
        refine lv_aload_n hx hb dX0_settle_54 rfl (lv_at hl 4 rfl) ?_
        refine zg_1_4 C hs hP ha2 hk2 wf_X0_42 dX0_settle_55 ?_
        refine lv_imul hx hb dX0_settle_58 ?_
        refine lv_topi (fun x_20 ex_20 => ?_)
        refine lv_iadd hx hb dX0_settle_59 ?_
        refine lv_topi (fun x_21 ex_21 => ?_)
        refine lv_goto (tgt := 68) hx hb dX0_settle_60 (by decide) ?_
        exact J_68_16 x_21 _ (lv_sub hl [2, 3, 4, 5, 6, 1, 0] rfl)
set_option maxHeartbeats 4000000 in
set_option maxRecDepth 100000 in
theorem c_X7_settle (l : Launch) (D : va_G) (K : zK) (hO : zOk K) (vi va : Nat → Nat → Int32) (vg : Nat → Nat → Option Nat) (hI : zI K (vi, va, vg)) (a0 : Nat) (ha0 : a0 ∈ zl K) (hk0 : zk K a0 = 6) (a1 : Nat) (ha1 : a1 ∈ zl K) (hk1 : zk K a1 = 5) (a2 : Nat) (ha2 : a2 ∈ zl K) (hk2 : zk K a2 = 1) (x3 : Int32) (x4 : Int32) : Met l yX7_settle (zc yX7_settle cX7_settle 5 (some .int)) (rmd 3) (va_Pc [.ref a0, .ref a1, .ref a2, .int x3, .int x4] (zB D K (vi, va, vg))) (zQi D K (fun r V' => zI K V' ∧ V'.2.2 = vg)) 0 0 (zA K) := by
  refine zin (by decide) (Nat.le_of_ble_eq_true rfl) ?_
  intro p e s m args below meth c ls Q hQ C hr hlk hP hs hl
  have C : CallFix p m c cX7_settle 5 s args zw RX7 := C
  obtain ⟨hx, hb, hml, hown, hts⟩ := id C
  have hS : va_S (zA K) s.heap s.heap [] := va_S.rf
  have hl : lv_has ls 5 [(0, .ref a0), (1, .ref a1), (2, .ref a2), (3, .int x3), (4, .int x4)] := hl
  refine lv_aload_n hx hb dX7_settle_0 rfl (lv_at hl 1 rfl) ?_
  refine lv_bipush (v := 53) hx hb dX7_settle_1 (by decide) ?_
  refine zcV (zrV (As := [.int 53]) (b := a1) (rest := []) C hs hP hS (c_X6_body l D K hO vi va vg hI a1 ha1 hk1 53) m_X6_body wm_X7_18 (zrecv hs hP ha1 (zF_5 hk1) rfl) ⟨by decide, by decide⟩ hl.1 (Nat.le_of_ble_eq_true rfl) dX7_settle_3) hS (fun V_1 H locs p_1 hP hS => ?_)
  obtain ⟨vi_1, va_1, vg_1⟩ := V_1
  obtain ⟨hI, hg_1⟩ := p_1
  try dsimp only at hI hg_1
  replace hg_1 := hg_1.symm
  subst hg_1
  refine lv_aload_n hx hb dX7_settle_6 rfl (lv_at hl 0 rfl) ?_
  refine zg_6_2 C hs hP ha0 hk0 wf_X7_15 dX7_settle_7 ?_
  have hf_2 := hO.2.2.2.2.2.1 _ ha0 hk0 2 (Or.inr rfl)
  refine lv_aload_n hx hb dX7_settle_10 rfl (lv_at hl 1 rfl) ?_
  refine lv_aload_n hx hb dX7_settle_11 rfl (lv_at hl 2 rfl) ?_
  refine lv_iload_n hx hb dX7_settle_12 rfl (lv_at hl 3 rfl) ?_
  refine lv_iload hx hb dX7_settle_13 (lv_at hl 4 rfl) ?_
  have run_3 : va_Run p l e (rmd 3) s m args below meth c H locs 0 0 0 0 (F0 m 15 ls [.int x4, .int x3, .ref a2, .ref a1, .ref (zr K a0 2)]) [] ((zQi D K (fun r V' => zI K V' ∧ V'.2.2 = vg)) ([.ref (zr K a0 2), .ref a1, .ref a2, .int x3, .int x4] : List Value).toArray) (zA K) := by
    rcases hf_2.2 with h9 | h9 | h9 | h9
    · exact zrUO (Cn := RX0) (As := [.ref a1, .ref a2, .int x3, .int x4]) (b := zr K a0 2) (rest := []) C hs hP hS (c_X0_settle l D K hO vi_1 va_1 vg hI (zr K a0 2) hf_2.1 h9 a1 ha1 hk1 a2 ha2 hk2 x3 x4) m0_X0_settle wi_X0_settle wm_X7_43 wq_X3_X3_settle we_X0_X3_settle wo_X3_settle wi_X3_settle ⟨by decide, by decide⟩ rfl (zrecv hs hP hf_2.1 (zF_0 h9) rfl) ⟨by decide, by decide⟩ hl.1 (Nat.le_of_ble_eq_true rfl) dX7_settle_15
    · exact zrV (As := [.ref a1, .ref a2, .int x3, .int x4]) (b := zr K a0 2) (rest := []) C hs hP hS (c_X3_settle l D K hO vi_1 va_1 vg hI (zr K a0 2) hf_2.1 (Or.inr (Or.inl h9)) a1 ha1 hk1 a2 ha2 hk2 x3 x4) m_X3_settle wm_X7_43 (zrecv hs hP hf_2.1 (zF_3 h9) rfl) ⟨by decide, by decide⟩ hl.1 (Nat.le_of_ble_eq_true rfl) dX7_settle_15
    · exact zrUO (Cn := RX5) (As := [.ref a1, .ref a2, .int x3, .int x4]) (b := zr K a0 2) (rest := []) C hs hP hS (c_X3_settle l D K hO vi_1 va_1 vg hI (zr K a0 2) hf_2.1 (Or.inr (Or.inr (Or.inl h9))) a1 ha1 hk1 a2 ha2 hk2 x3 x4) m0_X3_settle wi_X3_settle wm_X7_43 wq_X3_X3_settle we_X5_X3_settle wo_X3_settle wi_X3_settle ⟨by decide, by decide⟩ rfl (zrecv hs hP hf_2.1 (zF_4 h9) rfl) ⟨by decide, by decide⟩ hl.1 (Nat.le_of_ble_eq_true rfl) dX7_settle_15
    · exact zrUO (Cn := RX10) (As := [.ref a1, .ref a2, .int x3, .int x4]) (b := zr K a0 2) (rest := []) C hs hP hS (c_X3_settle l D K hO vi_1 va_1 vg hI (zr K a0 2) hf_2.1 (Or.inr (Or.inr (Or.inr h9))) a1 ha1 hk1 a2 ha2 hk2 x3 x4) m0_X3_settle wi_X3_settle wm_X7_43 wq_X3_X3_settle we_X10_X3_settle wo_X3_settle wi_X3_settle ⟨by decide, by decide⟩ rfl (zrecv hs hP hf_2.1 (zF_9 h9) rfl) ⟨by decide, by decide⟩ hl.1 (Nat.le_of_ble_eq_true rfl) dX7_settle_15
  refine zcI run_3 hS (fun x_4 V_4 H locs p_4 hP hS => ?_)
  obtain ⟨vi_4, va_4, vg_4⟩ := V_4
  obtain ⟨hI, hg_4⟩ := p_4
  try dsimp only at hI hg_4
  replace hg_4 := hg_4.symm
  subst hg_4
  exact zaI hQ hx hb hr hlk hP hS ⟨hI, rfl⟩ dX7_settle_18
set_option maxHeartbeats 4000000 in
set_option maxRecDepth 100000 in
theorem c_X3_player (l : Launch) (D : va_G) (K : zK) (hO : zOk K) (vi va : Nat → Nat → Int32) (vg : Nat → Nat → Option Nat) (hI : zI K (vi, va, vg)) (a0 : Nat) (ha0 : a0 ∈ zl K) (hk0 : fol K a0) : Met l yX3_player (zc yX3_player cX3_player 1 (some (.object "CardTables$Follow"))) (rmd 0) (va_Pc [.ref a0] (zB D K (vi, va, vg))) (va_Sq (fun r => ∃ q, r = some q ∧ q ∈ zl K ∧ fol K q)) 0 0 (fun _ => False) := by
  refine zin (by decide) (Nat.le_of_ble_eq_true rfl) ?_
  intro p e s m args below meth c ls Q hQ C hr hlk hP hs hl
  have C : CallFix p m c cX3_player 1 s args zw RX3 := C
  obtain ⟨hx, hb, hml, hown, hts⟩ := id C
  have hS : va_S (zA K) s.heap s.heap [] := va_S.rf
  have hl : lv_has ls 1 [(0, .ref a0)] := hl
  refine lv_aload_n hx hb dX3_player_0 rfl (lv_at hl 0 rfl) ?_
  exact zaSr hQ hx hb hr hlk ⟨_, rfl, ha0, hk0⟩ dX3_player_1
set_option maxHeartbeats 4000000 in
set_option maxRecDepth 100000 in
theorem c_X7_player (l : Launch) (D : va_G) (K : zK) (hO : zOk K) (vi va : Nat → Nat → Int32) (vg : Nat → Nat → Option Nat) (hI : zI K (vi, va, vg)) (a0 : Nat) (ha0 : a0 ∈ zl K) (hk0 : zk K a0 = 6) : Met l yX7_player (zc yX7_player cX7_player 1 (some (.object "CardTables$Follow"))) (rmd 0) (va_Pc [.ref a0] (zB D K (vi, va, vg))) (va_Sq (fun r => ∃ q, r = some q ∧ q ∈ zl K ∧ fol K q)) 0 0 (fun _ => False) := by
  refine zin (by decide) (Nat.le_of_ble_eq_true rfl) ?_
  intro p e s m args below meth c ls Q hQ C hr hlk hP hs hl
  have C : CallFix p m c cX7_player 1 s args zw RX7 := C
  obtain ⟨hx, hb, hml, hown, hts⟩ := id C
  have hS : va_S (zA K) s.heap s.heap [] := va_S.rf
  have hl : lv_has ls 1 [(0, .ref a0)] := hl
  refine lv_aload_n hx hb dX7_player_0 rfl (lv_at hl 0 rfl) ?_
  refine zg_6_1 C hs hP ha0 hk0 wf_X7_9 dX7_player_1 ?_
  have hf_1 := hO.2.2.2.2.2.1 _ ha0 hk0 1 (Or.inl rfl)
  exact zaSr hQ hx hb hr hlk ⟨_, rfl, hf_1.1, hf_1.2⟩ dX7_player_4
