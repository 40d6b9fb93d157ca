set_option maxHeartbeats 4000000 in
set_option maxRecDepth 100000 in
theorem c_X11_seat (l : Launch) (D : va_G) (K : zK) (hO : zOk K) (vi va : Nat → Nat → Int32) (vg : Nat → Nat → Option Nat) (hI : zI K (vi, va, vg)) (a0 : Nat) (ha0 : a0 ∈ zl K) (hk0 : zk K a0 = 10) (x1 : Int32) (x2 : Int32) (x3 : Int32) : Met l yX11_seat (zc yX11_seat cX11_seat 6 (some .int)) (rmd 3) (va_Pc [.ref a0, .int x1, .int x2, .int x3] (zB D K (vi, va, vg))) (zQi D K (fun r V' => zI K V')) 0 0 (zA K) := by
  refine zin (by decide) (Nat.le_of_ble_eq_true rfl) ?_
  intro p e s m args below meth c ls Q hQ C hr hlk hP hs hl
  have C : CallFix p m c cX11_seat 6 s args zw RX11 := C
  obtain ⟨hx, hb, hml, hown, hts⟩ := id C
  have hS : va_S (zA K) s.heap s.heap [] := va_S.rf
  have hl : lv_has ls 6 [(0, .ref a0), (1, .int x1), (2, .int x2), (3, .int x3)] := hl
  refine lv_aload_n hx hb dX11_seat_0 rfl (lv_at hl 0 rfl) ?_
  refine lv_iload_n hx hb dX11_seat_1 rfl (lv_at hl 1 rfl) ?_
  refine zcSq (zrV (As := [.int x1]) (b := a0) (rest := []) C hs hP hS (c_X11_tableAt l D K hO vi va vg hI a0 ha0 hk0 x1) m_X11_tableAt wm_X11_83 (zrecv hs hP ha0 (zF_10 hk0) rfl) ⟨by decide, by decide⟩ hl.1 (Nat.le_of_ble_eq_true rfl) dX11_seat_2) (fun p_1 => ?_) (fun q_1 p_1 => ?_)
  · skip
    refine lv_astoreN (lv' := [(4, .null), (0, .ref a0), (1, .int x1), (2, .int x2), (3, .int x3)]) hx hb dX11_seat_5 hl (by decide) rfl (fun ls hl => ?_)
    refine lv_aloadN hx hb dX11_seat_7 (lv_at hl 0 rfl) ?_
    refine lv_ifnullN (tgt := 19) hx hb dX11_seat_9 (by decide) ?_
    refine lv_bipush (v := (-2)) hx hb dX11_seat_19 (by decide) ?_
    exact zaI hQ hx hb hr hlk hP hS hI dX11_seat_21
  · skip
    obtain ⟨ha_q_1, hk_q_1, hr_q_1⟩ := p_1 _ rfl
    refine lv_astore (lv' := [(4, .ref q_1), (0, .ref a0), (1, .int x1), (2, .int x2), (3, .int x3)]) hx hb dX11_seat_5 hl (by decide) rfl (fun ls hl => ?_)
    refine lv_aload hx hb dX11_seat_7 (lv_at hl 0 rfl) ?_
    refine lv_ifnull hx hb dX11_seat_9 ?_
    refine lv_iload_n hx hb dX11_seat_12 rfl (lv_at hl 3 rfl) ?_
    refine zcS (zrS (As := [.int x2]) (rest := []) C hs hP hS (c_X11_isSeat l D K hO vi va vg hI x2) m_X11_isSeat wm_X11_87 ⟨by decide, by decide⟩ hl.1 (Nat.le_of_ble_eq_true rfl) dX11_seat_13) (fun x_2 p_2 => ?_)
    have pp_2 : (x_2.toInt ≠ 0 → 0 ≤ x2.toInt ∧ x2.toInt ≤ 3) := p_2.2
    refine bz_ne (tgt := 22) hx hb rfl dX11_seat_16 (by decide) (fun c_3 => ?_) (fun c_3 => ?_)
    · skip
      refine lv_aload hx hb dX11_seat_22 (lv_at hl 0 rfl) ?_
      refine zcS (zrV (As := []) (b := q_1) (rest := []) C hs hP hS (c_X9_isOn l D K hO vi va vg hI q_1 ha_q_1 hk_q_1) m_X9_isOn wm_X11_90 (zrecv hs hP ha_q_1 (zF_8 hk_q_1) rfl) ⟨by decide, by decide⟩ hl.1 (Nat.le_of_ble_eq_true rfl) dX11_seat_24) (fun x_4 p_4 => ?_)
      refine bz_eq (tgt := 33) hx hb rfl dX11_seat_27 (by decide) (fun c_5 => ?_) (fun c_5 => ?_)
      · skip
        refine lv_aload hx hb dX11_seat_33 (lv_at hl 0 rfl) ?_
        refine zg_8_7 C hs hP ha_q_1 hk_q_1 wf_X11_94 dX11_seat_35 ?_
        have hf_6 := hO.r (j := 7) ha_q_1 hk_q_1 (rfl : zX 8 7 = some (21, 4))
        refine lv_iload_n hx hb dX11_seat_38 rfl (lv_at hl 3 rfl) ?_
        have g_8 := z_rng x2
        have hin_7 : vp_in x2 (zn K (zr K q_1 7)) := vp_in_iff.mpr (by rw [(hf_6.2.2 (by decide))]; refine ⟨?_, ?_⟩ <;> omega)
        refine zld_21 C hs hP hf_6.1 hf_6.2.1 hin_7 dX11_seat_39 ?_
        have J_48_11 : ∀ (y_10 : Int32) (ls : Array Slot), (y_10 = 0 ∨ y_10 = 1) → lv_has ls 6 [(0, .ref a0), (1, .int x1), (2, .int x2), (3, .int x3), (4, .ref q_1)] → W p l e (rmd 3) s m args below meth c s.heap [] 0 0 Q (F0 m 48 ls [.int y_10]) := by
          intro y_10 ls hb_y_10 hl
          refine lv_istore (lv' := [(5, .int y_10), (0, .ref a0), (1, .int x1), (2, .int x2), (3, .int x3), (4, .ref q_1)]) hx hb dX11_seat_48 hl (by decide) rfl (fun ls hl => ?_)
          refine lv_iload_n hx hb dX11_seat_50 rfl (lv_at hl 4 rfl) ?_
          refine bz_ne (tgt := 60) hx hb rfl dX11_seat_51 (by decide) (fun c_13 => ?_) (fun c_13 => ?_)
          · skip
            refine lv_aload hx hb dX11_seat_60 (lv_at hl 5 rfl) ?_
            refine zg_8_7 C hs hP ha_q_1 hk_q_1 wf_X11_94 dX11_seat_62 ?_
            refine lv_iload_n hx hb dX11_seat_65 rfl (lv_at hl 3 rfl) ?_
            refine lv_iload_n hx hb dX11_seat_66 rfl (lv_at hl 4 rfl) ?_
            have hin_14 : vp_in x2 (zn K (zr K q_1 7)) := vp_in_iff.mpr (by rw [(hf_6.2.2 (by decide))]; refine ⟨?_, ?_⟩ <;> omega)
            refine ks_21 C hO hs hP hS hf_6.1 hf_6.2.1 hI hin_14 dX11_seat_67 (fun va_15 H locs hI hP hS => ?_)
            refine lv_iload hx hb dX11_seat_68 (lv_at hl 0 rfl) ?_
            exact zaI hQ hx hb hr hlk hP hS hI dX11_seat_70
          · skip
            refine lv_aload hx hb dX11_seat_54 (lv_at hl 5 rfl) ?_
            refine lv_iload_n hx hb dX11_seat_56 rfl (lv_at hl 3 rfl) ?_
            refine zcV (zrV (As := [.int x2]) (b := q_1) (rest := []) C hs hP hS (c_X9_takeHandAway l D K hO vi va vg hI q_1 ha_q_1 hk_q_1 x2) m_X9_takeHandAway wm_X11_98 (zrecv hs hP ha_q_1 (zF_8 hk_q_1) rfl) ⟨by decide, by decide⟩ hl.1 (Nat.le_of_ble_eq_true rfl) dX11_seat_57) hS (fun V_16 H locs p_16 hP hS => ?_)
            obtain ⟨vi_16, va_16, vg_16⟩ := V_16
            obtain ⟨hI, hg_16⟩ := p_16
            try dsimp only at hI hg_16
            replace hg_16 := hg_16.symm
            subst hg_16
            refine lv_aload hx hb dX11_seat_60 (lv_at hl 5 rfl) ?_
            refine zg_8_7 C hs hP ha_q_1 hk_q_1 wf_X11_94 dX11_seat_62 ?_
            refine lv_iload_n hx hb dX11_seat_65 rfl (lv_at hl 3 rfl) ?_
            refine lv_iload_n hx hb dX11_seat_66 rfl (lv_at hl 4 rfl) ?_
            have hin_17 : vp_in x2 (zn K (zr K q_1 7)) := vp_in_iff.mpr (by rw [(hf_6.2.2 (by decide))]; refine ⟨?_, ?_⟩ <;> omega)
            refine ks_21 C hO hs hP hS hf_6.1 hf_6.2.1 hI hin_17 dX11_seat_67 (fun va_18 H locs hI hP hS => ?_)
            refine lv_iload hx hb dX11_seat_68 (lv_at hl 0 rfl) ?_
            exact zaI hQ hx hb hr hlk hP hS hI dX11_seat_70
        refine bz_eq (tgt := 47) hx hb rfl dX11_seat_40 (by decide) (fun c_9 => ?_) (fun c_9 => ?_)
        · skip
          refine lv_iconst (v := 0) hx hb dX11_seat_47 (by decide) ?_
          exact J_48_11 0 _ (Or.inl rfl) (lv_sub hl [1, 2, 3, 4, 0] rfl)
        · skip
          refine lv_iconst (v := 1) hx hb dX11_seat_43 (by decide) ?_
          refine lv_goto (tgt := 48) hx hb dX11_seat_44 (by decide) ?_
          exact J_48_11 1 _ (Or.inr rfl) (lv_sub hl [1, 2, 3, 4, 0] rfl)
      · skip
        refine lv_bipush (v := (-4)) hx hb dX11_seat_30 (by decide) ?_
        exact zaI hQ hx hb hr hlk hP hS hI dX11_seat_32
    · skip
      refine lv_bipush (v := (-2)) hx hb dX11_seat_19 (by decide) ?_
      exact zaI hQ hx hb hr hlk hP hS hI dX11_seat_21
set_option maxHeartbeats 4000000 in
set_option maxRecDepth 100000 in
theorem c_X11_kind (l : Launch) (D : va_G) (K : zK) (hO : zOk K) (vi va : Nat → Nat → Int32) (vg : Nat → Nat → Option Nat) (hI : zI K (vi, va, vg)) (a0 : Nat) (ha0 : a0 ∈ zl K) (hk0 : zk K a0 = 10) (x1 : Int32) (x2 : Int32) (x3 : Int32) : Met l yX11_kind (zc yX11_kind cX11_kind 6 (some .int)) (rmd 1) (va_Pc [.ref a0, .int x1, .int x2, .int x3] (zB D K (vi, va, vg))) (zQi D K (fun r V' => zI K V')) 0 0 (zA K) := by
  refine zin (by decide) (Nat.le_of_ble_eq_true rfl) ?_
  intro p e s m args below meth c ls Q hQ C hr hlk hP hs hl
  have C : CallFix p m c cX11_kind 6 s args zw RX11 := C
  obtain ⟨hx, hb, hml, hown, hts⟩ := id C
  have hS : va_S (zA K) s.heap s.heap [] := va_S.rf
  have hl : lv_has ls 6 [(0, .ref a0), (1, .int x1), (2, .int x2), (3, .int x3)] := hl
  refine lv_aload_n hx hb dX11_kind_0 rfl (lv_at hl 0 rfl) ?_
  refine lv_iload_n hx hb dX11_kind_1 rfl (lv_at hl 1 rfl) ?_
  refine zcSq (zrV (As := [.int x1]) (b := a0) (rest := []) C hs hP hS (c_X11_tableAt l D K hO vi va vg hI a0 ha0 hk0 x1) m_X11_tableAt wm_X11_83 (zrecv hs hP ha0 (zF_10 hk0) rfl) ⟨by decide, by decide⟩ hl.1 (Nat.le_of_ble_eq_true rfl) dX11_kind_2) (fun p_1 => ?_) (fun q_1 p_1 => ?_)
  · skip
    refine lv_astoreN (lv' := [(4, .null), (0, .ref a0), (1, .int x1), (2, .int x2), (3, .int x3)]) hx hb dX11_kind_5 hl (by decide) rfl (fun ls hl => ?_)
    refine lv_aloadN hx hb dX11_kind_7 (lv_at hl 0 rfl) ?_
    refine lv_ifnullN (tgt := 21) hx hb dX11_kind_9 (by decide) ?_
    refine lv_bipush (v := (-2)) hx hb dX11_kind_21 (by decide) ?_
    exact zaI hQ hx hb hr hlk hP hS hI dX11_kind_23
  · skip
    obtain ⟨ha_q_1, hk_q_1, hr_q_1⟩ := p_1 _ rfl
    refine lv_astore (lv' := [(4, .ref q_1), (0, .ref a0), (1, .int x1), (2, .int x2), (3, .int x3)]) hx hb dX11_kind_5 hl (by decide) rfl (fun ls hl => ?_)
    refine lv_aload hx hb dX11_kind_7 (lv_at hl 0 rfl) ?_
    refine lv_ifnull hx hb dX11_kind_9 ?_
    refine lv_aload hx hb dX11_kind_12 (lv_at hl 0 rfl) ?_
    refine lv_iload_n hx hb dX11_kind_14 rfl (lv_at hl 3 rfl) ?_
    refine zcS (zrV (As := [.int x2]) (b := q_1) (rest := []) C hs hP hS (c_X9_hasCard l D K hO vi va vg hI q_1 ha_q_1 hk_q_1 x2) m_X9_hasCard wm_X11_101 (zrecv hs hP ha_q_1 (zF_8 hk_q_1) rfl) ⟨by decide, by decide⟩ hl.1 (Nat.le_of_ble_eq_true rfl) dX11_kind_15) (fun x_2 p_2 => ?_)
    have pp_2 : (x_2.toInt ≠ 0 → 0 ≤ x2.toInt ∧ x2.toInt ≤ 59) := p_2.2
    refine bz_ne (tgt := 24) hx hb rfl dX11_kind_18 (by decide) (fun c_3 => ?_) (fun c_3 => ?_)
    · skip
      refine lv_iload_n hx hb dX11_kind_24 rfl (lv_at hl 4 rfl) ?_
      refine bz_lt (tgt := 33) hx hb rfl dX11_kind_25 (by decide) (fun c_4 => ?_) (fun c_4 => ?_)
      · skip
        refine lv_bipush (v := (-3)) hx hb dX11_kind_33 (by decide) ?_
        exact zaI hQ hx hb hr hlk hP hS hI dX11_kind_35
      · skip
        refine lv_iload_n hx hb dX11_kind_28 rfl (lv_at hl 4 rfl) ?_
        refine lv_iconst (v := 3) hx hb dX11_kind_29 (by decide) ?_
        refine bi_le (tgt := 36) hx hb rfl ti_3 dX11_kind_30 (by decide) (fun c_5 => ?_) (fun c_5 => ?_)
        · skip
          refine lv_aload hx hb dX11_kind_36 (lv_at hl 0 rfl) ?_
          refine zg_8_6 C hs hP ha_q_1 hk_q_1 wf_X11_104 dX11_kind_38 ?_
          have hf_6 := hO.r (j := 6) ha_q_1 hk_q_1 (rfl : zX 8 6 = some (20, 60))
          refine lv_iload_n hx hb dX11_kind_41 rfl (lv_at hl 3 rfl) ?_
          have g_8 := z_rng x2
          have hin_7 : vp_in x2 (zn K (zr K q_1 6)) := vp_in_iff.mpr (by rw [(hf_6.2.2 (by decide))]; refine ⟨?_, ?_⟩ <;> omega)
          refine zld_20 C hs hP hf_6.1 hf_6.2.1 hin_7 dX11_kind_42 ?_
          refine bz_eq (tgt := 49) hx hb rfl dX11_kind_43 (by decide) (fun c_9 => ?_) (fun c_9 => ?_)
          · skip
            refine lv_iconst (v := 0) hx hb dX11_kind_49 (by decide) ?_
            refine lv_aload hx hb dX11_kind_50 (lv_at hl 0 rfl) ?_
            refine zg_8_5 C hs hP ha_q_1 hk_q_1 wf_X11_107 dX11_kind_52 ?_
            have hf_10 := hO.r (j := 5) ha_q_1 hk_q_1 (rfl : zX 8 5 = some (20, 60))
            refine lv_iload_n hx hb dX11_kind_55 rfl (lv_at hl 3 rfl) ?_
            have hin_11 : vp_in x2 (zn K (zr K q_1 5)) := vp_in_iff.mpr (by rw [(hf_10.2.2 (by decide))]; refine ⟨?_, ?_⟩ <;> omega)
            refine zld_20 C hs hP hf_10.1 hf_10.2.1 hin_11 dX11_kind_56 ?_
            refine lv_iconst (v := 3) hx hb dX11_kind_57 (by decide) ?_
            refine lv_isub hx hb dX11_kind_58 ?_
            refine lv_topi (fun x_12 ex_12 => ?_)
            refine va_mmax hx hb (hml.trans hl.1.symm) hown (hts _ wm_X11_110) (hts _ wt_Lib_Math_max_name) (hts _ wn_J9) (hts _ wo_max) (by decide) (Nat.le_of_ble_eq_true rfl) (Nat.zero_le _) (Nat.zero_le _) dX11_kind_59 ?_
            refine lv_topi (fun x_13 ex_13 => ?_)
            refine lv_istore (lv' := [(5, .int x_13), (4, .ref q_1), (0, .ref a0), (1, .int x1), (2, .int x2), (3, .int x3)]) hx hb dX11_kind_62 hl (by decide) rfl (fun ls hl => ?_)
            refine lv_aload hx hb dX11_kind_64 (lv_at hl 1 rfl) ?_
            refine zg_8_5 C hs hP ha_q_1 hk_q_1 wf_X11_107 dX11_kind_66 ?_
            refine lv_iload_n hx hb dX11_kind_69 rfl (lv_at hl 4 rfl) ?_
            refine lv_iload_n hx hb dX11_kind_70 rfl (lv_at hl 5 rfl) ?_
            refine bz_ne (tgt := 80) hx hb rfl dX11_kind_71 (by decide) (fun c_14 => ?_) (fun c_14 => ?_)
            · skip
              refine lv_iload_n hx hb dX11_kind_80 rfl (lv_at hl 5 rfl) ?_
              refine lv_iconst (v := 3) hx hb dX11_kind_81 (by decide) ?_
              refine lv_iadd hx hb dX11_kind_82 ?_
              refine lv_topi (fun x_15 ex_15 => ?_)
              have hin_16 : vp_in x2 (zn K (zr K q_1 5)) := vp_in_iff.mpr (by rw [(hf_10.2.2 (by decide))]; refine ⟨?_, ?_⟩ <;> omega)
              refine ks_20 C hO hs hP hS hf_10.1 hf_10.2.1 hI hin_16 dX11_kind_83 (fun va_17 H locs hI hP hS => ?_)
              refine lv_iload hx hb dX11_kind_84 (lv_at hl 0 rfl) ?_
              exact zaI hQ hx hb hr hlk hP hS hI dX11_kind_86
            · skip
              refine lv_iload_n hx hb dX11_kind_74 rfl (lv_at hl 4 rfl) ?_
              refine lv_iconst (v := 3) hx hb dX11_kind_75 (by decide) ?_
              refine lv_iand hx hb dX11_kind_76 ?_
              refine lv_topi (fun x_18 ex_18 => ?_)
              refine lv_goto (tgt := 83) hx hb dX11_kind_77 (by decide) ?_
              have hin_19 : vp_in x2 (zn K (zr K q_1 5)) := vp_in_iff.mpr (by rw [(hf_10.2.2 (by decide))]; refine ⟨?_, ?_⟩ <;> omega)
              refine ks_20 C hO hs hP hS hf_10.1 hf_10.2.1 hI hin_19 dX11_kind_83 (fun va_20 H locs hI hP hS => ?_)
              refine lv_iload hx hb dX11_kind_84 (lv_at hl 0 rfl) ?_
              exact zaI hQ hx hb hr hlk hP hS hI dX11_kind_86
          · skip
            refine lv_bipush (v := (-4)) hx hb dX11_kind_46 (by decide) ?_
            exact zaI hQ hx hb hr hlk hP hS hI dX11_kind_48
        · skip
          refine lv_bipush (v := (-3)) hx hb dX11_kind_33 (by decide) ?_
          exact zaI hQ hx hb hr hlk hP hS hI dX11_kind_35
    · skip
      refine lv_bipush (v := (-2)) hx hb dX11_kind_21 (by decide) ?_
      exact zaI hQ hx hb hr hlk hP hS hI dX11_kind_23
set_option maxHeartbeats 4000000 in
set_option maxRecDepth 100000 in
theorem c_X11_deal (l : Launch) (D : va_G) (K : zK) (hO : zOk K) (vi va : Nat → Nat → Int32) (vg : Nat → Nat → Option Nat) (hI : zI K (vi, va, vg)) (a0 : Nat) (ha0 : a0 ∈ zl K) (hk0 : zk K a0 = 10) (x1 : Int32) (x2 : Int32) (x3 : Int32) : Met l yX11_deal (zc yX11_deal cX11_deal 6 (some .int)) (rmd 6) (va_Pc [.ref a0, .int x1, .int x2, .int x3] (zB D K (vi, va, vg))) (zQi D K (fun r V' => zI K V')) 0 0 (zA K) := by
  refine zin (by decide) (Nat.le_of_ble_eq_true rfl) ?_
  intro p e s m args below meth c ls Q hQ C hr hlk hP hs hl
  have C : CallFix p m c cX11_deal 6 s args zw RX11 := C
  obtain ⟨hx, hb, hml, hown, hts⟩ := id C
  have hS : va_S (zA K) s.heap s.heap [] := va_S.rf
  have hl : lv_has ls 6 [(0, .ref a0), (1, .int x1), (2, .int x2), (3, .int x3)] := hl
  refine lv_aload_n hx hb dX11_deal_0 rfl (lv_at hl 0 rfl) ?_
  refine lv_iload_n hx hb dX11_deal_1 rfl (lv_at hl 1 rfl) ?_
  refine zcSq (zrV (As := [.int x1]) (b := a0) (rest := []) C hs hP hS (c_X11_tableAt l D K hO vi va vg hI a0 ha0 hk0 x1) m_X11_tableAt wm_X11_83 (zrecv hs hP ha0 (zF_10 hk0) rfl) ⟨by decide, by decide⟩ hl.1 (Nat.le_of_ble_eq_true rfl) dX11_deal_2) (fun p_1 => ?_) (fun q_1 p_1 => ?_)
  · skip
    refine lv_astoreN (lv' := [(4, .null), (0, .ref a0), (1, .int x1), (2, .int x2), (3, .int x3)]) hx hb dX11_deal_5 hl (by decide) rfl (fun ls hl => ?_)
    refine lv_aloadN hx hb dX11_deal_7 (lv_at hl 0 rfl) ?_
    refine lv_ifnonnullN hx hb dX11_deal_9 ?_
    refine lv_bipush (v := (-2)) hx hb dX11_deal_12 (by decide) ?_
    exact zaI hQ hx hb hr hlk hP hS hI dX11_deal_14
  · skip
    obtain ⟨ha_q_1, hk_q_1, hr_q_1⟩ := p_1 _ rfl
    refine lv_astore (lv' := [(4, .ref q_1), (0, .ref a0), (1, .int x1), (2, .int x2), (3, .int x3)]) hx hb dX11_deal_5 hl (by decide) rfl (fun ls hl => ?_)
    refine lv_aload hx hb dX11_deal_7 (lv_at hl 0 rfl) ?_
    refine lv_ifnonnull (tgt := 15) hx hb dX11_deal_9 (by decide) ?_
    refine lv_iload_n hx hb dX11_deal_15 rfl (lv_at hl 4 rfl) ?_
    refine lv_iconst (v := (-1)) hx hb dX11_deal_16 (by decide) ?_
    refine bi_lt (tgt := 33) hx hb rfl ti_m1 dX11_deal_17 (by decide) (fun c_2 => ?_) (fun c_2 => ?_)
    · skip
      refine lv_bipush (v := (-3)) hx hb dX11_deal_33 (by decide) ?_
      exact zaI hQ hx hb hr hlk hP hS hI dX11_deal_35
    · skip
      refine lv_iload_n hx hb dX11_deal_20 rfl (lv_at hl 4 rfl) ?_
      refine lv_aload hx hb dX11_deal_21 (lv_at hl 0 rfl) ?_
      refine lv_aload_n hx hb dX11_deal_23 rfl (lv_at hl 1 rfl) ?_
      refine zg_10_7 C hs hP ha0 hk0 wf_X11_47 dX11_deal_24 ?_
      have hf_3 := hO.r (j := 7) ha0 hk0 (rfl : zX 10 7 = some (5, 0))
      refine zcI (zrV (As := [.ref (zr K a0 7)]) (b := q_1) (rest := [.int x3]) C hs hP hS (c_X9_sizeBy l D K hO vi va vg hI q_1 ha_q_1 hk_q_1 (zr K a0 7) hf_3.1 hf_3.2.1) m_X9_sizeBy wm_X11_131 (zrecv hs hP ha_q_1 (zF_8 hk_q_1) rfl) ⟨by decide, by decide⟩ hl.1 (Nat.le_of_ble_eq_true rfl) dX11_deal_27) hS (fun x_4 V_4 H locs p_4 hP hS => ?_)
      obtain ⟨vi_4, va_4, vg_4⟩ := V_4
      obtain ⟨hI, hg_4⟩ := p_4
      try dsimp only at hI hg_4
      replace hg_4 := hg_4.symm
      subst hg_4
      refine bi_le (tgt := 36) hx hb rfl rfl dX11_deal_30 (by decide) (fun c_5 => ?_) (fun c_5 => ?_)
      · skip
        refine lv_aload hx hb dX11_deal_36 (lv_at hl 0 rfl) ?_
        refine zcS (zrV (As := []) (b := q_1) (rest := []) C hs hP hS (c_X9_isOn l D K hO vi_4 va_4 vg hI q_1 ha_q_1 hk_q_1) m_X9_isOn wm_X11_90 (zrecv hs hP ha_q_1 (zF_8 hk_q_1) rfl) ⟨by decide, by decide⟩ hl.1 (Nat.le_of_ble_eq_true rfl) dX11_deal_38) (fun x_6 p_6 => ?_)
        refine bz_eq (tgt := 56) hx hb rfl dX11_deal_41 (by decide) (fun c_7 => ?_) (fun c_7 => ?_)
        · skip
          refine lv_aload hx hb dX11_deal_56 (lv_at hl 0 rfl) ?_
          refine zg_8_4 C hs hP ha_q_1 hk_q_1 wf_X11_116 dX11_deal_58 ?_
          refine lv_aload hx hb dX11_deal_61 (lv_at hl 0 rfl) ?_
          refine zg_8_3 C hs hP ha_q_1 hk_q_1 wf_X11_119 dX11_deal_63 ?_
          refine bi_lt (tgt := 72) hx hb rfl rfl dX11_deal_66 (by decide) (fun c_8 => ?_) (fun c_8 => ?_)
          · skip
            refine lv_aload_n hx hb dX11_deal_72 rfl (lv_at hl 1 rfl) ?_
            refine lv_aload hx hb dX11_deal_73 (lv_at hl 0 rfl) ?_
            refine zcV (zrV (As := [.ref q_1]) (b := a0) (rest := []) C hs hP hS (c_X11_keep l D K hO vi_4 va_4 vg hI a0 ha0 hk0 q_1 ha_q_1 hk_q_1) m_X11_keep wm_X11_144 (zrecv hs hP ha0 (zF_10 hk0) rfl) ⟨by decide, by decide⟩ hl.1 (Nat.le_of_ble_eq_true rfl) dX11_deal_75) hS (fun V_9 H locs p_9 hP hS => ?_)
            obtain ⟨vi_9, va_9, vg_9⟩ := V_9
            have hI := p_9
            try dsimp only at hI
            refine lv_aload hx hb dX11_deal_78 (lv_at hl 0 rfl) ?_
            refine lv_aload_n hx hb dX11_deal_80 rfl (lv_at hl 1 rfl) ?_
            refine zg_10_6 C hs hP ha0 hk0 wf_X11_43 dX11_deal_81 ?_
            have hf_10 := hO.r (j := 6) ha0 hk0 (rfl : zX 10 6 = some (5, 0))
            refine zcI (zrV (As := [.ref (zr K a0 6)]) (b := q_1) (rest := []) C hs hP hS (c_X9_sizeBy l D K hO vi_9 va_9 vg_9 hI q_1 ha_q_1 hk_q_1 (zr K a0 6) hf_10.1 hf_10.2.1) m_X9_sizeBy wm_X11_131 (zrecv hs hP ha_q_1 (zF_8 hk_q_1) rfl) ⟨by decide, by decide⟩ hl.1 (Nat.le_of_ble_eq_true rfl) dX11_deal_84) hS (fun x_11 V_11 H locs p_11 hP hS => ?_)
            obtain ⟨vi_11, va_11, vg_11⟩ := V_11
            obtain ⟨hI, hg_11⟩ := p_11
            try dsimp only at hI hg_11
            replace hg_11 := hg_11.symm
            subst hg_11
            refine lv_istore (lv' := [(5, .int x_11), (4, .ref q_1), (0, .ref a0), (1, .int x1), (2, .int x2), (3, .int x3)]) hx hb dX11_deal_87 hl (by decide) rfl (fun ls hl => ?_)
            refine lv_aload_n hx hb dX11_deal_89 rfl (lv_at hl 2 rfl) ?_
            refine zg_10_6 C hs hP ha0 hk0 wf_X11_43 dX11_deal_90 ?_
            refine lv_dup hx hb dX11_deal_93 rfl ?_
            refine zg_5_6 C hs hP hf_10.1 hf_10.2.1 wf_X11_148 dX11_deal_94 ?_
            refine lv_iconst (v := 1) hx hb dX11_deal_97 (by decide) ?_
            refine lv_iadd hx hb dX11_deal_98 ?_
            refine lv_topi (fun x_12 ex_12 => ?_)
            refine kp_5_6 C hO hs hP hS hf_10.1 hf_10.2.1 wf_X11_148 hI dX11_deal_99 (fun vi_13 H locs hI hP hS => ?_)
            refine lv_aload hx hb dX11_deal_102 (lv_at hl 1 rfl) ?_
            refine lv_dup hx hb dX11_deal_104 rfl ?_
            refine zg_8_4 C hs hP ha_q_1 hk_q_1 wf_X11_116 dX11_deal_105 ?_
            refine lv_iconst (v := 1) hx hb dX11_deal_108 (by decide) ?_
            refine lv_iadd hx hb dX11_deal_109 ?_
            refine lv_topi (fun x_14 ex_14 => ?_)
            refine kp_8_4 C hO hs hP hS ha_q_1 hk_q_1 wf_X11_116 hI dX11_deal_110 (fun vi_15 H locs hI hP hS => ?_)
            refine lv_aload hx hb dX11_deal_113 (lv_at hl 1 rfl) ?_
            refine lv_iload_n hx hb dX11_deal_115 rfl (lv_at hl 4 rfl) ?_
            refine lv_iload_n hx hb dX11_deal_116 rfl (lv_at hl 5 rfl) ?_
            have J_126_18 : ∀ (y_17 : Int32) (ls : Array Slot), lv_has ls 6 [(0, .ref a0), (1, .int x1), (2, .int x2), (3, .int x3), (4, .ref q_1), (5, .int x_11)] → W p l e (rmd 6) s m args below meth c H locs 0 0 Q (F0 m 126 ls [.int y_17, .int x2, .ref q_1]) := by
              intro y_17 ls hl
              refine zcV (zrV (As := [.int x2, .int y_17]) (b := q_1) (rest := []) C hs hP hS (c_X9_begin l D K hO vi_15 va_11 vg_9 hI q_1 ha_q_1 hk_q_1 x2 y_17) m_X9_begin wm_X11_151 (zrecv hs hP ha_q_1 (zF_8 hk_q_1) rfl) ⟨by decide, by decide⟩ hl.1 (Nat.le_of_ble_eq_true rfl) dX11_deal_126) hS (fun V_20 H locs p_20 hP hS => ?_)
              obtain ⟨vi_20, va_20, vg_20⟩ := V_20
              obtain ⟨hI, hg_20⟩ := p_20
              try dsimp only at hI hg_20
              replace hg_20 := hg_20.symm
              subst hg_20
              refine lv_aload hx hb dX11_deal_129 (lv_at hl 4 rfl) ?_
              refine zg_8_13 C hs hP ha_q_1 hk_q_1 wf_X11_135 dX11_deal_131 ?_
              have hf_21 := hO.r (j := 13) ha_q_1 hk_q_1 (rfl : zX 8 13 = some (1, 0))
              refine lv_aload_n hx hb dX11_deal_134 rfl (lv_at hl 0 rfl) ?_
              refine zg_10_6 C hs hP ha0 hk0 wf_X11_43 dX11_deal_135 ?_
              refine zg_5_6 C hs hP hf_10.1 hf_10.2.1 wf_X11_148 dX11_deal_138 ?_
              refine kp_1_1 C hO hs hP hS hf_21.1 hf_21.2.1 wf_X11_155 hI dX11_deal_141 (fun vi_22 H locs hI hP hS => ?_)
              refine lv_aload_n hx hb dX11_deal_144 rfl (lv_at hl 0 rfl) ?_
              refine zg_10_6 C hs hP ha0 hk0 wf_X11_43 dX11_deal_145 ?_
              refine zg_5_6 C hs hP hf_10.1 hf_10.2.1 wf_X11_148 dX11_deal_148 ?_
              exact zaI hQ hx hb hr hlk hP hS hI dX11_deal_151
            refine bz_ge (tgt := 125) hx hb rfl dX11_deal_117 (by decide) (fun c_16 => ?_) (fun c_16 => ?_)
            · skip
              refine lv_iload_n hx hb dX11_deal_125 rfl (lv_at hl 5 rfl) ?_
              exact J_126_18 x3 _ (lv_sub hl [2, 3, 4, 5, 1, 0] rfl)
            · skip
              refine lv_iload hx hb dX11_deal_120 (lv_at hl 0 rfl) ?_
              refine lv_goto (tgt := 126) hx hb dX11_deal_122 (by decide) ?_
              exact J_126_18 x_11 _ (lv_sub hl [2, 3, 4, 5, 1, 0] rfl)
          · skip
            refine lv_bipush (v := (-4)) hx hb dX11_deal_69 (by decide) ?_
            exact zaI hQ hx hb hr hlk hP hS hI dX11_deal_71
        · skip
          refine lv_aload hx hb dX11_deal_44 (lv_at hl 0 rfl) ?_
          refine zg_8_13 C hs hP ha_q_1 hk_q_1 wf_X11_135 dX11_deal_46 ?_
          have hf_23 := hO.r (j := 13) ha_q_1 hk_q_1 (rfl : zX 8 13 = some (1, 0))
          refine zg_1_2 C hs hP hf_23.1 hf_23.2.1 wf_X11_139 dX11_deal_49 ?_
          refine lv_iconst (v := (-1)) hx hb dX11_deal_52 (by decide) ?_
          refine bi_ne (tgt := 69) hx hb rfl ti_m1 dX11_deal_53 (by decide) (fun c_24 => ?_) (fun c_24 => ?_)
          · skip
            refine lv_bipush (v := (-4)) hx hb dX11_deal_69 (by decide) ?_
            exact zaI hQ hx hb hr hlk hP hS hI dX11_deal_71
          · skip
            refine lv_aload hx hb dX11_deal_56 (lv_at hl 0 rfl) ?_
            refine zg_8_4 C hs hP ha_q_1 hk_q_1 wf_X11_116 dX11_deal_58 ?_
            refine lv_aload hx hb dX11_deal_61 (lv_at hl 0 rfl) ?_
            refine zg_8_3 C hs hP ha_q_1 hk_q_1 wf_X11_119 dX11_deal_63 ?_
            refine bi_lt (tgt := 72) hx hb rfl rfl dX11_deal_66 (by decide) (fun c_25 => ?_) (fun c_25 => ?_)
            · skip
              refine lv_aload_n hx hb dX11_deal_72 rfl (lv_at hl 1 rfl) ?_
              refine lv_aload hx hb dX11_deal_73 (lv_at hl 0 rfl) ?_
              refine zcV (zrV (As := [.ref q_1]) (b := a0) (rest := []) C hs hP hS (c_X11_keep l D K hO vi_4 va_4 vg hI a0 ha0 hk0 q_1 ha_q_1 hk_q_1) m_X11_keep wm_X11_144 (zrecv hs hP ha0 (zF_10 hk0) rfl) ⟨by decide, by decide⟩ hl.1 (Nat.le_of_ble_eq_true rfl) dX11_deal_75) hS (fun V_26 H locs p_26 hP hS => ?_)
              obtain ⟨vi_26, va_26, vg_26⟩ := V_26
              have hI := p_26
              try dsimp only at hI
              refine lv_aload hx hb dX11_deal_78 (lv_at hl 0 rfl) ?_
              refine lv_aload_n hx hb dX11_deal_80 rfl (lv_at hl 1 rfl) ?_
              refine zg_10_6 C hs hP ha0 hk0 wf_X11_43 dX11_deal_81 ?_
              have hf_27 := hO.r (j := 6) ha0 hk0 (rfl : zX 10 6 = some (5, 0))
              refine zcI (zrV (As := [.ref (zr K a0 6)]) (b := q_1) (rest := []) C hs hP hS (c_X9_sizeBy l D K hO vi_26 va_26 vg_26 hI q_1 ha_q_1 hk_q_1 (zr K a0 6) hf_27.1 hf_27.2.1) m_X9_sizeBy wm_X11_131 (zrecv hs hP ha_q_1 (zF_8 hk_q_1) rfl) ⟨by decide, by decide⟩ hl.1 (Nat.le_of_ble_eq_true rfl) dX11_deal_84) hS (fun x_28 V_28 H locs p_28 hP hS => ?_)
              obtain ⟨vi_28, va_28, vg_28⟩ := V_28
              obtain ⟨hI, hg_28⟩ := p_28
              try dsimp only at hI hg_28
              replace hg_28 := hg_28.symm
              subst hg_28
              refine lv_istore (lv' := [(5, .int x_28), (4, .ref q_1), (0, .ref a0), (1, .int x1), (2, .int x2), (3, .int x3)]) hx hb dX11_deal_87 hl (by decide) rfl (fun ls hl => ?_)
              refine lv_aload_n hx hb dX11_deal_89 rfl (lv_at hl 2 rfl) ?_
              refine zg_10_6 C hs hP ha0 hk0 wf_X11_43 dX11_deal_90 ?_
              refine lv_dup hx hb dX11_deal_93 rfl ?_
              refine zg_5_6 C hs hP hf_27.1 hf_27.2.1 wf_X11_148 dX11_deal_94 ?_
              refine lv_iconst (v := 1) hx hb dX11_deal_97 (by decide) ?_
              refine lv_iadd hx hb dX11_deal_98 ?_
              refine lv_topi (fun x_29 ex_29 => ?_)
              refine kp_5_6 C hO hs hP hS hf_27.1 hf_27.2.1 wf_X11_148 hI dX11_deal_99 (fun vi_30 H locs hI hP hS => ?_)
              refine lv_aload hx hb dX11_deal_102 (lv_at hl 1 rfl) ?_
              refine lv_dup hx hb dX11_deal_104 rfl ?_
              refine zg_8_4 C hs hP ha_q_1 hk_q_1 wf_X11_116 dX11_deal_105 ?_
              refine lv_iconst (v := 1) hx hb dX11_deal_108 (by decide) ?_
              refine lv_iadd hx hb dX11_deal_109 ?_
              refine lv_topi (fun x_31 ex_31 => ?_)
              refine kp_8_4 C hO hs hP hS ha_q_1 hk_q_1 wf_X11_116 hI dX11_deal_110 (fun vi_32 H locs hI hP hS => ?_)
              refine lv_aload hx hb dX11_deal_113 (lv_at hl 1 rfl) ?_
              refine lv_iload_n hx hb dX11_deal_115 rfl (lv_at hl 4 rfl) ?_
              refine lv_iload_n hx hb dX11_deal_116 rfl (lv_at hl 5 rfl) ?_
              have J_126_35 : ∀ (y_34 : Int32) (ls : Array Slot), lv_has ls 6 [(0, .ref a0), (1, .int x1), (2, .int x2), (3, .int x3), (4, .ref q_1), (5, .int x_28)] → W p l e (rmd 6) s m args below meth c H locs 0 0 Q (F0 m 126 ls [.int y_34, .int x2, .ref q_1]) := by
                intro y_34 ls hl
                refine zcV (zrV (As := [.int x2, .int y_34]) (b := q_1) (rest := []) C hs hP hS (c_X9_begin l D K hO vi_32 va_28 vg_26 hI q_1 ha_q_1 hk_q_1 x2 y_34) m_X9_begin wm_X11_151 (zrecv hs hP ha_q_1 (zF_8 hk_q_1) rfl) ⟨by decide, by decide⟩ hl.1 (Nat.le_of_ble_eq_true rfl) dX11_deal_126) hS (fun V_37 H locs p_37 hP hS => ?_)
                obtain ⟨vi_37, va_37, vg_37⟩ := V_37
                obtain ⟨hI, hg_37⟩ := p_37
                try dsimp only at hI hg_37
                replace hg_37 := hg_37.symm
                subst hg_37
                refine lv_aload hx hb dX11_deal_129 (lv_at hl 4 rfl) ?_
                refine zg_8_13 C hs hP ha_q_1 hk_q_1 wf_X11_135 dX11_deal_131 ?_
                refine lv_aload_n hx hb dX11_deal_134 rfl (lv_at hl 0 rfl) ?_
                refine zg_10_6 C hs hP ha0 hk0 wf_X11_43 dX11_deal_135 ?_
                refine zg_5_6 C hs hP hf_27.1 hf_27.2.1 wf_X11_148 dX11_deal_138 ?_
                refine kp_1_1 C hO hs hP hS hf_23.1 hf_23.2.1 wf_X11_155 hI dX11_deal_141 (fun vi_38 H locs hI hP hS => ?_)
                refine lv_aload_n hx hb dX11_deal_144 rfl (lv_at hl 0 rfl) ?_
                refine zg_10_6 C hs hP ha0 hk0 wf_X11_43 dX11_deal_145 ?_
                refine zg_5_6 C hs hP hf_27.1 hf_27.2.1 wf_X11_148 dX11_deal_148 ?_
                exact zaI hQ hx hb hr hlk hP hS hI dX11_deal_151
              refine bz_ge (tgt := 125) hx hb rfl dX11_deal_117 (by decide) (fun c_33 => ?_) (fun c_33 => ?_)
              · skip
                refine lv_iload_n hx hb dX11_deal_125 rfl (lv_at hl 5 rfl) ?_
                exact J_126_35 x3 _ (lv_sub hl [2, 3, 4, 5, 1, 0] rfl)
              · skip
                refine lv_iload hx hb dX11_deal_120 (lv_at hl 0 rfl) ?_
                refine lv_goto (tgt := 126) hx hb dX11_deal_122 (by decide) ?_
                exact J_126_35 x_28 _ (lv_sub hl [2, 3, 4, 5, 1, 0] rfl)
            · skip
              refine lv_bipush (v := (-4)) hx hb dX11_deal_69 (by decide) ?_
              exact zaI hQ hx hb hr hlk hP hS hI dX11_deal_71
      · skip
        refine lv_bipush (v := (-3)) hx hb dX11_deal_33 (by decide) ?_
        exact zaI hQ hx hb hr hlk hP hS hI dX11_deal_35
set_option maxHeartbeats 4000000 in
set_option maxRecDepth 100000 in
theorem c_X11_give (l : Launch) (D : va_G) (K : zK) (hO : zOk K) (vi va : Nat → Nat → Int32) (vg : Nat → Nat → Option Nat) (hI : zI K (vi, va, vg)) (a0 : Nat) (ha0 : a0 ∈ zl K) (hk0 : zk K a0 = 10) (x1 : Int32) (x2 : Int32) (x3 : Int32) : Met l yX11_give (zc yX11_give cX11_give 6 (some .int)) (rmd 6) (va_Pc [.ref a0, .int x1, .int x2, .int x3] (zB D K (vi, va, vg))) (zQi D K (fun r V' => zI K V')) 0 0 (zA K) := by
  refine zin (by decide) (Nat.le_of_ble_eq_true rfl) ?_
  intro p e s m args below meth c ls Q hQ C hr hlk hP hs hl
  have C : CallFix p m c cX11_give 6 s args zw RX11 := C
  obtain ⟨hx, hb, hml, hown, hts⟩ := id C
  have hS : va_S (zA K) s.heap s.heap [] := va_S.rf
  have hl : lv_has ls 6 [(0, .ref a0), (1, .int x1), (2, .int x2), (3, .int x3)] := hl
  refine lv_aload_n hx hb dX11_give_0 rfl (lv_at hl 0 rfl) ?_
  refine lv_iload_n hx hb dX11_give_1 rfl (lv_at hl 1 rfl) ?_
  refine zcSq (zrV (As := [.int x1]) (b := a0) (rest := []) C hs hP hS (c_X11_tableAt l D K hO vi va vg hI a0 ha0 hk0 x1) m_X11_tableAt wm_X11_83 (zrecv hs hP ha0 (zF_10 hk0) rfl) ⟨by decide, by decide⟩ hl.1 (Nat.le_of_ble_eq_true rfl) dX11_give_2) (fun p_1 => ?_) (fun q_1 p_1 => ?_)
  · skip
    refine lv_astoreN (lv' := [(4, .null), (0, .ref a0), (1, .int x1), (2, .int x2), (3, .int x3)]) hx hb dX11_give_5 hl (by decide) rfl (fun ls hl => ?_)
    refine lv_aloadN hx hb dX11_give_7 (lv_at hl 0 rfl) ?_
    refine lv_ifnullN (tgt := 28) hx hb dX11_give_9 (by decide) ?_
    refine lv_bipush (v := (-2)) hx hb dX11_give_28 (by decide) ?_
    exact zaI hQ hx hb hr hlk hP hS hI dX11_give_30
  · skip
    obtain ⟨ha_q_1, hk_q_1, hr_q_1⟩ := p_1 _ rfl
    refine lv_astore (lv' := [(4, .ref q_1), (0, .ref a0), (1, .int x1), (2, .int x2), (3, .int x3)]) hx hb dX11_give_5 hl (by decide) rfl (fun ls hl => ?_)
    refine lv_aload hx hb dX11_give_7 (lv_at hl 0 rfl) ?_
    refine lv_ifnull hx hb dX11_give_9 ?_
    refine lv_iload_n hx hb dX11_give_12 rfl (lv_at hl 3 rfl) ?_
    refine zcS (zrS (As := [.int x2]) (rest := []) C hs hP hS (c_X11_isSeat l D K hO vi va vg hI x2) m_X11_isSeat wm_X11_87 ⟨by decide, by decide⟩ hl.1 (Nat.le_of_ble_eq_true rfl) dX11_give_13) (fun x_2 p_2 => ?_)
    have pp_2 : (x_2.toInt ≠ 0 → 0 ≤ x2.toInt ∧ x2.toInt ≤ 3) := p_2.2
    refine bz_eq (tgt := 28) hx hb rfl dX11_give_16 (by decide) (fun c_3 => ?_) (fun c_3 => ?_)
    · skip
      refine lv_bipush (v := (-2)) hx hb dX11_give_28 (by decide) ?_
      exact zaI hQ hx hb hr hlk hP hS hI dX11_give_30
    · skip
      refine lv_aload hx hb dX11_give_19 (lv_at hl 0 rfl) ?_
      refine lv_iload_n hx hb dX11_give_21 rfl (lv_at hl 4 rfl) ?_
      refine zcS (zrV (As := [.int x3]) (b := q_1) (rest := []) C hs hP hS (c_X9_hasCard l D K hO vi va vg hI q_1 ha_q_1 hk_q_1 x3) m_X9_hasCard wm_X11_101 (zrecv hs hP ha_q_1 (zF_8 hk_q_1) rfl) ⟨by decide, by decide⟩ hl.1 (Nat.le_of_ble_eq_true rfl) dX11_give_22) (fun x_4 p_4 => ?_)
      have pp_4 : (x_4.toInt ≠ 0 → 0 ≤ x3.toInt ∧ x3.toInt ≤ 59) := p_4.2
      refine bz_ne (tgt := 31) hx hb rfl dX11_give_25 (by decide) (fun c_5 => ?_) (fun c_5 => ?_)
      · skip
        refine lv_aload hx hb dX11_give_31 (lv_at hl 0 rfl) ?_
        refine lv_aload_n hx hb dX11_give_33 rfl (lv_at hl 1 rfl) ?_
        refine zg_10_7 C hs hP ha0 hk0 wf_X11_47 dX11_give_34 ?_
        have hf_6 := hO.r (j := 7) ha0 hk0 (rfl : zX 10 7 = some (5, 0))
        refine lv_iload_n hx hb dX11_give_37 rfl (lv_at hl 3 rfl) ?_
        refine lv_iload_n hx hb dX11_give_38 rfl (lv_at hl 4 rfl) ?_
        refine zcI (zrV (As := [.ref (zr K a0 7), .int x2, .int x3]) (b := q_1) (rest := []) C hs hP hS (c_X9_refusalToGive l D K hO vi va vg hI q_1 ha_q_1 hk_q_1 (zr K a0 7) hf_6.1 hf_6.2.1 x2 x3) m_X9_refusalToGive wm_X11_156 (zrecv hs hP ha_q_1 (zF_8 hk_q_1) rfl) ⟨by decide, by decide⟩ hl.1 (Nat.le_of_ble_eq_true rfl) dX11_give_39) hS (fun x_7 V_7 H locs p_7 hP hS => ?_)
        obtain ⟨vi_7, va_7, vg_7⟩ := V_7
        obtain ⟨hI, hg_7⟩ := p_7
        try dsimp only at hI hg_7
        replace hg_7 := hg_7.symm
        subst hg_7
        refine lv_istore (lv' := [(5, .int x_7), (4, .ref q_1), (0, .ref a0), (1, .int x1), (2, .int x2), (3, .int x3)]) hx hb dX11_give_42 hl (by decide) rfl (fun ls hl => ?_)
        refine lv_iload hx hb dX11_give_44 (lv_at hl 0 rfl) ?_
        refine bz_eq (tgt := 52) hx hb rfl dX11_give_46 (by decide) (fun c_8 => ?_) (fun c_8 => ?_)
        · skip
          refine lv_aload_n hx hb dX11_give_52 rfl (lv_at hl 2 rfl) ?_
          refine lv_aload hx hb dX11_give_53 (lv_at hl 1 rfl) ?_
          refine zcV (zrV (As := [.ref q_1]) (b := a0) (rest := []) C hs hP hS (c_X11_keep l D K hO vi_7 va_7 vg hI a0 ha0 hk0 q_1 ha_q_1 hk_q_1) m_X11_keep wm_X11_144 (zrecv hs hP ha0 (zF_10 hk0) rfl) ⟨by decide, by decide⟩ hl.1 (Nat.le_of_ble_eq_true rfl) dX11_give_55) hS (fun V_9 H locs p_9 hP hS => ?_)
          obtain ⟨vi_9, va_9, vg_9⟩ := V_9
          have hI := p_9
          try dsimp only at hI
          refine lv_aload hx hb dX11_give_58 (lv_at hl 1 rfl) ?_
          refine zg_8_13 C hs hP ha_q_1 hk_q_1 wf_X11_135 dX11_give_60 ?_
          have hf_10 := hO.r (j := 13) ha_q_1 hk_q_1 (rfl : zX 8 13 = some (1, 0))
          refine zg_1_17 C hs hP hf_10.1 hf_10.2.1 wf_X11_160 dX11_give_63 ?_
          have hf_11 := hO.r (j := 17) hf_10.1 hf_10.2.1 (rfl : zX 1 17 = some (7, 0))
          refine lv_iconst (v := 0) hx hb dX11_give_66 (by decide) ?_
          refine lv_iload_n hx hb dX11_give_67 rfl (lv_at hl 4 rfl) ?_
          refine lv_iload_n hx hb dX11_give_68 rfl (lv_at hl 5 rfl) ?_
          refine lv_iconst (v := 0) hx hb dX11_give_69 (by decide) ?_
          refine zcS (zrS (As := [.int 0, .int x2, .int x3, .int 0]) (rest := [.ref (zr K (zr K q_1 13) 17)]) C hs hP hS (c_X11_packed l D K hO vi_9 va_9 vg_9 hI 0 x2 x3 0) m_X11_packed wm_X11_164 ⟨by decide, by decide⟩ hl.1 (Nat.le_of_ble_eq_true rfl) dX11_give_70) (fun x_12 p_12 => ?_)
          refine zcV (zrV (As := [.int x_12]) (b := zr K (zr K q_1 13) 17) (rest := []) C hs hP hS (c_X8_add l D K hO vi_9 va_9 vg_9 hI (zr K (zr K q_1 13) 17) hf_11.1 hf_11.2.1 x_12) m_X8_add wm_X11_168 (zrecv hs hP hf_11.1 (zF_7 hf_11.2.1) rfl) ⟨by decide, by decide⟩ hl.1 (Nat.le_of_ble_eq_true rfl) dX11_give_73) hS (fun V_13 H locs p_13 hP hS => ?_)
          obtain ⟨vi_13, va_13, vg_13⟩ := V_13
          obtain ⟨hI, hg_13⟩ := p_13
          try dsimp only at hI hg_13
          replace hg_13 := hg_13.symm
          subst hg_13
          refine lv_aload hx hb dX11_give_76 (lv_at hl 1 rfl) ?_
          refine lv_iload_n hx hb dX11_give_78 rfl (lv_at hl 4 rfl) ?_
          refine lv_iload_n hx hb dX11_give_79 rfl (lv_at hl 5 rfl) ?_
          refine zcI (zrV (As := [.int x2, .int x3]) (b := q_1) (rest := []) C hs hP hS (c_X9_giveCard l D K hO vi_13 va_13 vg_9 hI q_1 ha_q_1 hk_q_1 x2 x3) m_X9_giveCard wm_X11_173 (zrecv hs hP ha_q_1 (zF_8 hk_q_1) rfl) ⟨by decide, by decide⟩ hl.1 (Nat.le_of_ble_eq_true rfl) dX11_give_80) hS (fun x_14 V_14 H locs p_14 hP hS => ?_)
          obtain ⟨vi_14, va_14, vg_14⟩ := V_14
          obtain ⟨hI, hg_14⟩ := p_14
          try dsimp only at hI hg_14
          replace hg_14 := hg_14.symm
          subst hg_14
          exact zaI hQ hx hb hr hlk hP hS hI dX11_give_83
        · skip
          refine lv_iload hx hb dX11_give_49 (lv_at hl 0 rfl) ?_
          exact zaI hQ hx hb hr hlk hP hS hI dX11_give_51
      · skip
        refine lv_bipush (v := (-2)) hx hb dX11_give_28 (by decide) ?_
        exact zaI hQ hx hb hr hlk hP hS hI dX11_give_30
set_option maxHeartbeats 4000000 in
set_option maxRecDepth 100000 in
theorem c_X11_lay (l : Launch) (D : va_G) (K : zK) (hO : zOk K) (vi va : Nat → Nat → Int32) (vg : Nat → Nat → Option Nat) (hI : zI K (vi, va, vg)) (a0 : Nat) (ha0 : a0 ∈ zl K) (hk0 : zk K a0 = 10) (x1 : Int32) (x2 : Int32) (x3 : Int32) : Met l yX11_lay (zc yX11_lay cX11_lay 5 (some .int)) (rmd 7) (va_Pc [.ref a0, .int x1, .int x2, .int x3] (zB D K (vi, va, vg))) (zQi D K (fun r V' => zI K V')) 0 0 (zA K) := by
  refine zin (by decide) (Nat.le_of_ble_eq_true rfl) ?_
  intro p e s m args below meth c ls Q hQ C hr hlk hP hs hl
  have C : CallFix p m c cX11_lay 5 s args zw RX11 := C
  obtain ⟨hx, hb, hml, hown, hts⟩ := id C
  have hS : va_S (zA K) s.heap s.heap [] := va_S.rf
  have hl : lv_has ls 5 [(0, .ref a0), (1, .int x1), (2, .int x2), (3, .int x3)] := hl
  refine lv_aload_n hx hb dX11_lay_0 rfl (lv_at hl 0 rfl) ?_
  refine lv_iload_n hx hb dX11_lay_1 rfl (lv_at hl 1 rfl) ?_
  refine zcSq (zrV (As := [.int x1]) (b := a0) (rest := []) C hs hP hS (c_X11_tableAt l D K hO vi va vg hI a0 ha0 hk0 x1) m_X11_tableAt wm_X11_83 (zrecv hs hP ha0 (zF_10 hk0) rfl) ⟨by decide, by decide⟩ hl.1 (Nat.le_of_ble_eq_true rfl) dX11_lay_2) (fun p_1 => ?_) (fun q_1 p_1 => ?_)
  · skip
    refine lv_astoreN (lv' := [(4, .null), (0, .ref a0), (1, .int x1), (2, .int x2), (3, .int x3)]) hx hb dX11_lay_5 hl (by decide) rfl (fun ls hl => ?_)
    refine lv_aloadN hx hb dX11_lay_7 (lv_at hl 0 rfl) ?_
    refine lv_ifnullN (tgt := 19) hx hb dX11_lay_9 (by decide) ?_
    refine lv_bipush (v := (-2)) hx hb dX11_lay_19 (by decide) ?_
    exact zaI hQ hx hb hr hlk hP hS hI dX11_lay_21
  · skip
    obtain ⟨ha_q_1, hk_q_1, hr_q_1⟩ := p_1 _ rfl
    refine lv_astore (lv' := [(4, .ref q_1), (0, .ref a0), (1, .int x1), (2, .int x2), (3, .int x3)]) hx hb dX11_lay_5 hl (by decide) rfl (fun ls hl => ?_)
    refine lv_aload hx hb dX11_lay_7 (lv_at hl 0 rfl) ?_
    refine lv_ifnull hx hb dX11_lay_9 ?_
    refine lv_iload_n hx hb dX11_lay_12 rfl (lv_at hl 3 rfl) ?_
    refine zcS (zrS (As := [.int x2]) (rest := []) C hs hP hS (c_X11_isSeat l D K hO vi va vg hI x2) m_X11_isSeat wm_X11_87 ⟨by decide, by decide⟩ hl.1 (Nat.le_of_ble_eq_true rfl) dX11_lay_13) (fun x_2 p_2 => ?_)
    have pp_2 : (x_2.toInt ≠ 0 → 0 ≤ x2.toInt ∧ x2.toInt ≤ 3) := p_2.2
    refine bz_ne (tgt := 22) hx hb rfl dX11_lay_16 (by decide) (fun c_3 => ?_) (fun c_3 => ?_)
    · skip
      refine lv_aload hx hb dX11_lay_22 (lv_at hl 0 rfl) ?_
      refine zcS (zrV (As := []) (b := q_1) (rest := []) C hs hP hS (c_X9_isOn l D K hO vi va vg hI q_1 ha_q_1 hk_q_1) m_X9_isOn wm_X11_90 (zrecv hs hP ha_q_1 (zF_8 hk_q_1) rfl) ⟨by decide, by decide⟩ hl.1 (Nat.le_of_ble_eq_true rfl) dX11_lay_24) (fun x_4 p_4 => ?_)
      refine bz_eq (tgt := 46) hx hb rfl dX11_lay_27 (by decide) (fun c_5 => ?_) (fun c_5 => ?_)
      · skip
        refine lv_bipush (v := (-4)) hx hb dX11_lay_46 (by decide) ?_
        exact zaI hQ hx hb hr hlk hP hS hI dX11_lay_48
      · skip
        refine lv_aload_n hx hb dX11_lay_30 rfl (lv_at hl 1 rfl) ?_
        refine lv_aload hx hb dX11_lay_31 (lv_at hl 0 rfl) ?_
        refine lv_aload_n hx hb dX11_lay_33 rfl (lv_at hl 1 rfl) ?_
        refine zg_10_6 C hs hP ha0 hk0 wf_X11_43 dX11_lay_34 ?_
        have hf_6 := hO.r (j := 6) ha0 hk0 (rfl : zX 10 6 = some (5, 0))
        refine lv_iconst (v := 3) hx hb dX11_lay_37 (by decide) ?_
        refine lv_iload_n hx hb dX11_lay_38 rfl (lv_at hl 3 rfl) ?_
        refine lv_iload_n hx hb dX11_lay_39 rfl (lv_at hl 4 rfl) ?_
        refine zcI (zrV (As := [.ref q_1, .ref (zr K a0 6), .int 3, .int x2, .int x3]) (b := a0) (rest := []) C hs hP hS (c_X11_play l D K hO vi va vg hI a0 ha0 hk0 q_1 ha_q_1 hk_q_1 (zr K a0 6) hf_6.1 hf_6.2.1 3 x2 x3) m_X11_play wm_X11_190 (zrecv hs hP ha0 (zF_10 hk0) rfl) ⟨by decide, by decide⟩ hl.1 (Nat.le_of_ble_eq_true rfl) dX11_lay_40) hS (fun x_7 V_7 H locs p_7 hP hS => ?_)
        obtain ⟨vi_7, va_7, vg_7⟩ := V_7
        have hI := p_7
        try dsimp only at hI
        refine lv_goto (tgt := 48) hx hb dX11_lay_43 (by decide) ?_
        exact zaI hQ hx hb hr hlk hP hS hI dX11_lay_48
    · skip
      refine lv_bipush (v := (-2)) hx hb dX11_lay_19 (by decide) ?_
      exact zaI hQ hx hb hr hlk hP hS hI dX11_lay_21
set_option maxHeartbeats 4000000 in
set_option maxRecDepth 100000 in
theorem c_X11_revoke (l : Launch) (D : va_G) (K : zK) (hO : zOk K) (vi va : Nat → Nat → Int32) (vg : Nat → Nat → Option Nat) (hI : zI K (vi, va, vg)) (a0 : Nat) (ha0 : a0 ∈ zl K) (hk0 : zk K a0 = 10) (x1 : Int32) (x2 : Int32) (x3 : Int32) : Met l yX11_revoke (zc yX11_revoke cX11_revoke 5 (some .int)) (rmd 7) (va_Pc [.ref a0, .int x1, .int x2, .int x3] (zB D K (vi, va, vg))) (zQi D K (fun r V' => zI K V')) 0 0 (zA K) := by
  refine zin (by decide) (Nat.le_of_ble_eq_true rfl) ?_
  intro p e s m args below meth c ls Q hQ C hr hlk hP hs hl
  have C : CallFix p m c cX11_revoke 5 s args zw RX11 := C
  obtain ⟨hx, hb, hml, hown, hts⟩ := id C
  have hS : va_S (zA K) s.heap s.heap [] := va_S.rf
  have hl : lv_has ls 5 [(0, .ref a0), (1, .int x1), (2, .int x2), (3, .int x3)] := hl
  refine lv_aload_n hx hb dX11_revoke_0 rfl (lv_at hl 0 rfl) ?_
  refine lv_iload_n hx hb dX11_revoke_1 rfl (lv_at hl 1 rfl) ?_
  refine zcSq (zrV (As := [.int x1]) (b := a0) (rest := []) C hs hP hS (c_X11_tableAt l D K hO vi va vg hI a0 ha0 hk0 x1) m_X11_tableAt wm_X11_83 (zrecv hs hP ha0 (zF_10 hk0) rfl) ⟨by decide, by decide⟩ hl.1 (Nat.le_of_ble_eq_true rfl) dX11_revoke_2) (fun p_1 => ?_) (fun q_1 p_1 => ?_)
  · skip
    refine lv_astoreN (lv' := [(4, .null), (0, .ref a0), (1, .int x1), (2, .int x2), (3, .int x3)]) hx hb dX11_revoke_5 hl (by decide) rfl (fun ls hl => ?_)
    refine lv_aloadN hx hb dX11_revoke_7 (lv_at hl 0 rfl) ?_
    refine lv_ifnullN (tgt := 19) hx hb dX11_revoke_9 (by decide) ?_
    refine lv_bipush (v := (-2)) hx hb dX11_revoke_19 (by decide) ?_
    exact zaI hQ hx hb hr hlk hP hS hI dX11_revoke_21
  · skip
    obtain ⟨ha_q_1, hk_q_1, hr_q_1⟩ := p_1 _ rfl
    refine lv_astore (lv' := [(4, .ref q_1), (0, .ref a0), (1, .int x1), (2, .int x2), (3, .int x3)]) hx hb dX11_revoke_5 hl (by decide) rfl (fun ls hl => ?_)
    refine lv_aload hx hb dX11_revoke_7 (lv_at hl 0 rfl) ?_
    refine lv_ifnull hx hb dX11_revoke_9 ?_
    refine lv_iload_n hx hb dX11_revoke_12 rfl (lv_at hl 3 rfl) ?_
    refine zcS (zrS (As := [.int x2]) (rest := []) C hs hP hS (c_X11_isSeat l D K hO vi va vg hI x2) m_X11_isSeat wm_X11_87 ⟨by decide, by decide⟩ hl.1 (Nat.le_of_ble_eq_true rfl) dX11_revoke_13) (fun x_2 p_2 => ?_)
    have pp_2 : (x_2.toInt ≠ 0 → 0 ≤ x2.toInt ∧ x2.toInt ≤ 3) := p_2.2
    refine bz_ne (tgt := 22) hx hb rfl dX11_revoke_16 (by decide) (fun c_3 => ?_) (fun c_3 => ?_)
    · skip
      refine lv_aload hx hb dX11_revoke_22 (lv_at hl 0 rfl) ?_
      refine zcS (zrV (As := []) (b := q_1) (rest := []) C hs hP hS (c_X9_isOn l D K hO vi va vg hI q_1 ha_q_1 hk_q_1) m_X9_isOn wm_X11_90 (zrecv hs hP ha_q_1 (zF_8 hk_q_1) rfl) ⟨by decide, by decide⟩ hl.1 (Nat.le_of_ble_eq_true rfl) dX11_revoke_24) (fun x_4 p_4 => ?_)
      refine bz_eq (tgt := 46) hx hb rfl dX11_revoke_27 (by decide) (fun c_5 => ?_) (fun c_5 => ?_)
      · skip
        refine lv_bipush (v := (-4)) hx hb dX11_revoke_46 (by decide) ?_
        exact zaI hQ hx hb hr hlk hP hS hI dX11_revoke_48
      · skip
        refine lv_aload_n hx hb dX11_revoke_30 rfl (lv_at hl 1 rfl) ?_
        refine lv_aload hx hb dX11_revoke_31 (lv_at hl 0 rfl) ?_
        refine lv_aload_n hx hb dX11_revoke_33 rfl (lv_at hl 1 rfl) ?_
        refine zg_10_6 C hs hP ha0 hk0 wf_X11_43 dX11_revoke_34 ?_
        have hf_6 := hO.r (j := 6) ha0 hk0 (rfl : zX 10 6 = some (5, 0))
        refine lv_iconst (v := 4) hx hb dX11_revoke_37 (by decide) ?_
        refine lv_iload_n hx hb dX11_revoke_38 rfl (lv_at hl 3 rfl) ?_
        refine lv_iload_n hx hb dX11_revoke_39 rfl (lv_at hl 4 rfl) ?_
        refine zcI (zrV (As := [.ref q_1, .ref (zr K a0 6), .int 4, .int x2, .int x3]) (b := a0) (rest := []) C hs hP hS (c_X11_play l D K hO vi va vg hI a0 ha0 hk0 q_1 ha_q_1 hk_q_1 (zr K a0 6) hf_6.1 hf_6.2.1 4 x2 x3) m_X11_play wm_X11_190 (zrecv hs hP ha0 (zF_10 hk0) rfl) ⟨by decide, by decide⟩ hl.1 (Nat.le_of_ble_eq_true rfl) dX11_revoke_40) hS (fun x_7 V_7 H locs p_7 hP hS => ?_)
        obtain ⟨vi_7, va_7, vg_7⟩ := V_7
        have hI := p_7
        try dsimp only at hI
        refine lv_goto (tgt := 48) hx hb dX11_revoke_43 (by decide) ?_
        exact zaI hQ hx hb hr hlk hP hS hI dX11_revoke_48
    · skip
      refine lv_bipush (v := (-2)) hx hb dX11_revoke_19 (by decide) ?_
      exact zaI hQ hx hb hr hlk hP hS hI dX11_revoke_21
set_option maxHeartbeats 4000000 in
set_option maxRecDepth 100000 in
theorem c_X11_allowed (l : Launch) (D : va_G) (K : zK) (hO : zOk K) (vi va : Nat → Nat → Int32) (vg : Nat → Nat → Option Nat) (hI : zI K (vi, va, vg)) (a0 : Nat) (ha0 : a0 ∈ zl K) (hk0 : zk K a0 = 10) (x1 : Int32) (x2 : Int32) (x3 : Int32) : Met l yX11_allowed (zc yX11_allowed cX11_allowed 6 (some .int)) (rmd 5) (va_Pc [.ref a0, .int x1, .int x2, .int x3] (zB D K (vi, va, vg))) (zQi D K (fun r V' => zI K V')) 0 0 (zA K) := by
  refine zin (by decide) (Nat.le_of_ble_eq_true rfl) ?_
  intro p e s m args below meth c ls Q hQ C hr hlk hP hs hl
  have C : CallFix p m c cX11_allowed 6 s args zw RX11 := C
  obtain ⟨hx, hb, hml, hown, hts⟩ := id C
  have hS : va_S (zA K) s.heap s.heap [] := va_S.rf
  have hl : lv_has ls 6 [(0, .ref a0), (1, .int x1), (2, .int x2), (3, .int x3)] := hl
  refine lv_aload_n hx hb dX11_allowed_0 rfl (lv_at hl 0 rfl) ?_
  refine lv_iload_n hx hb dX11_allowed_1 rfl (lv_at hl 1 rfl) ?_
  refine zcSq (zrV (As := [.int x1]) (b := a0) (rest := []) C hs hP hS (c_X11_tableAt l D K hO vi va vg hI a0 ha0 hk0 x1) m_X11_tableAt wm_X11_83 (zrecv hs hP ha0 (zF_10 hk0) rfl) ⟨by decide, by decide⟩ hl.1 (Nat.le_of_ble_eq_true rfl) dX11_allowed_2) (fun p_1 => ?_) (fun q_1 p_1 => ?_)
  · skip
    refine lv_astoreN (lv' := [(4, .null), (0, .ref a0), (1, .int x1), (2, .int x2), (3, .int x3)]) hx hb dX11_allowed_5 hl (by decide) rfl (fun ls hl => ?_)
    refine lv_aloadN hx hb dX11_allowed_7 (lv_at hl 0 rfl) ?_
    refine lv_ifnullN (tgt := 19) hx hb dX11_allowed_9 (by decide) ?_
    refine lv_bipush (v := (-2)) hx hb dX11_allowed_19 (by decide) ?_
    exact zaI hQ hx hb hr hlk hP hS hI dX11_allowed_21
  · skip
    obtain ⟨ha_q_1, hk_q_1, hr_q_1⟩ := p_1 _ rfl
    refine lv_astore (lv' := [(4, .ref q_1), (0, .ref a0), (1, .int x1), (2, .int x2), (3, .int x3)]) hx hb dX11_allowed_5 hl (by decide) rfl (fun ls hl => ?_)
    refine lv_aload hx hb dX11_allowed_7 (lv_at hl 0 rfl) ?_
    refine lv_ifnull hx hb dX11_allowed_9 ?_
    refine lv_iload_n hx hb dX11_allowed_12 rfl (lv_at hl 3 rfl) ?_
    refine zcS (zrS (As := [.int x2]) (rest := []) C hs hP hS (c_X11_isSeat l D K hO vi va vg hI x2) m_X11_isSeat wm_X11_87 ⟨by decide, by decide⟩ hl.1 (Nat.le_of_ble_eq_true rfl) dX11_allowed_13) (fun x_2 p_2 => ?_)
    have pp_2 : (x_2.toInt ≠ 0 → 0 ≤ x2.toInt ∧ x2.toInt ≤ 3) := p_2.2
    refine bz_ne (tgt := 22) hx hb rfl dX11_allowed_16 (by decide) (fun c_3 => ?_) (fun c_3 => ?_)
    · skip
      refine lv_aload hx hb dX11_allowed_22 (lv_at hl 0 rfl) ?_
      refine zcS (zrV (As := []) (b := q_1) (rest := []) C hs hP hS (c_X9_isOn l D K hO vi va vg hI q_1 ha_q_1 hk_q_1) m_X9_isOn wm_X11_90 (zrecv hs hP ha_q_1 (zF_8 hk_q_1) rfl) ⟨by decide, by decide⟩ hl.1 (Nat.le_of_ble_eq_true rfl) dX11_allowed_24) (fun x_4 p_4 => ?_)
      refine bz_ne (tgt := 33) hx hb rfl dX11_allowed_27 (by decide) (fun c_5 => ?_) (fun c_5 => ?_)
      · skip
        refine lv_aload hx hb dX11_allowed_33 (lv_at hl 0 rfl) ?_
        refine lv_iload_n hx hb dX11_allowed_35 rfl (lv_at hl 3 rfl) ?_
        refine lv_iload_n hx hb dX11_allowed_36 rfl (lv_at hl 4 rfl) ?_
        refine lv_iconst (v := 0) hx hb dX11_allowed_37 (by decide) ?_
        refine zcS (zrV (As := [.int x2, .int x3, .int 0]) (b := q_1) (rest := []) C hs hP hS (c_X9_findingOf l D K hO vi va vg hI q_1 ha_q_1 hk_q_1 x2 x3 0) m_X9_findingOf wm_X11_194 (zrecv hs hP ha_q_1 (zF_8 hk_q_1) rfl) ⟨by decide, by decide⟩ hl.1 (Nat.le_of_ble_eq_true rfl) dX11_allowed_38) (fun x_6 p_6 => ?_)
        refine lv_istore (lv' := [(5, .int x_6), (4, .ref q_1), (0, .ref a0), (1, .int x1), (2, .int x2), (3, .int x3)]) hx hb dX11_allowed_41 hl (by decide) rfl (fun ls hl => ?_)
        refine lv_iload hx hb dX11_allowed_43 (lv_at hl 0 rfl) ?_
        refine bz_eq (tgt := 56) hx hb rfl dX11_allowed_45 (by decide) (fun c_7 => ?_) (fun c_7 => ?_)
        · skip
          refine lv_aload hx hb dX11_allowed_56 (lv_at hl 1 rfl) ?_
          refine lv_aload_n hx hb dX11_allowed_58 rfl (lv_at hl 2 rfl) ?_
          refine zg_10_6 C hs hP ha0 hk0 wf_X11_43 dX11_allowed_59 ?_
          have hf_8 := hO.r (j := 6) ha0 hk0 (rfl : zX 10 6 = some (5, 0))
          refine lv_iload_n hx hb dX11_allowed_62 rfl (lv_at hl 4 rfl) ?_
          refine lv_iload_n hx hb dX11_allowed_63 rfl (lv_at hl 5 rfl) ?_
          refine zcI (zrV (As := [.ref (zr K a0 6), .int x2, .int x3]) (b := q_1) (rest := []) C hs hP hS (c_X9_ruleAgainst l D K hO vi va vg hI q_1 ha_q_1 hk_q_1 (zr K a0 6) hf_8.1 hf_8.2.1 x2 x3) m_X9_ruleAgainst wm_X11_198 (zrecv hs hP ha_q_1 (zF_8 hk_q_1) rfl) ⟨by decide, by decide⟩ hl.1 (Nat.le_of_ble_eq_true rfl) dX11_allowed_64) hS (fun x_9 V_9 H locs p_9 hP hS => ?_)
          obtain ⟨vi_9, va_9, vg_9⟩ := V_9
          obtain ⟨hI, hg_9⟩ := p_9
          try dsimp only at hI hg_9
          replace hg_9 := hg_9.symm
          subst hg_9
          exact zaI hQ hx hb hr hlk hP hS hI dX11_allowed_67
        · skip
          refine lv_bipush (v := (-10)) hx hb dX11_allowed_48 (by decide) ?_
          refine lv_iload hx hb dX11_allowed_50 (lv_at hl 0 rfl) ?_
          refine lv_isub hx hb dX11_allowed_52 ?_
          refine lv_topi (fun x_10 ex_10 => ?_)
          refine lv_goto (tgt := 67) hx hb dX11_allowed_53 (by decide) ?_
          exact zaI hQ hx hb hr hlk hP hS hI dX11_allowed_67
      · skip
        refine lv_bipush (v := (-4)) hx hb dX11_allowed_30 (by decide) ?_
        exact zaI hQ hx hb hr hlk hP hS hI dX11_allowed_32
    · skip
      refine lv_bipush (v := (-2)) hx hb dX11_allowed_19 (by decide) ?_
      exact zaI hQ hx hb hr hlk hP hS hI dX11_allowed_21
set_option maxHeartbeats 4000000 in
set_option maxRecDepth 100000 in
theorem c_X11_line (l : Launch) (D : va_G) (K : zK) (hO : zOk K) (vi va : Nat → Nat → Int32) (vg : Nat → Nat → Option Nat) (hI : zI K (vi, va, vg)) (a0 : Nat) (ha0 : a0 ∈ zl K) (hk0 : zk K a0 = 10) (x1 : Int32) (x2 : Int32) (x3 : Int32) : Met l yX11_line (zc yX11_line cX11_line 5 (some .int)) (rmd 23) (va_Pc [.ref a0, .int x1, .int x2, .int x3] (zB D K (vi, va, vg))) (zQi D K (fun r V' => zI K V')) 0 0 (zA K) := by
  refine zin (by decide) (Nat.le_of_ble_eq_true rfl) ?_
  intro p e s m args below meth c ls Q hQ C hr hlk hP hs hl
  have C : CallFix p m c cX11_line 5 s args zw RX11 := C
  obtain ⟨hx, hb, hml, hown, hts⟩ := id C
  have hS : va_S (zA K) s.heap s.heap [] := va_S.rf
  have hl : lv_has ls 5 [(0, .ref a0), (1, .int x1), (2, .int x2), (3, .int x3)] := hl
  refine lv_aload_n hx hb dX11_line_0 rfl (lv_at hl 0 rfl) ?_
  refine lv_iload_n hx hb dX11_line_1 rfl (lv_at hl 1 rfl) ?_
  refine zcSq (zrV (As := [.int x1]) (b := a0) (rest := []) C hs hP hS (c_X11_tableAt l D K hO vi va vg hI a0 ha0 hk0 x1) m_X11_tableAt wm_X11_83 (zrecv hs hP ha0 (zF_10 hk0) rfl) ⟨by decide, by decide⟩ hl.1 (Nat.le_of_ble_eq_true rfl) dX11_line_2) (fun p_1 => ?_) (fun q_1 p_1 => ?_)
  · skip
    refine lv_astoreN (lv' := [(4, .null), (0, .ref a0), (1, .int x1), (2, .int x2), (3, .int x3)]) hx hb dX11_line_5 hl (by decide) rfl (fun ls hl => ?_)
    refine lv_aloadN hx hb dX11_line_7 (lv_at hl 0 rfl) ?_
    refine lv_ifnullN (tgt := 19) hx hb dX11_line_9 (by decide) ?_
    refine lv_bipush (v := (-2)) hx hb dX11_line_19 (by decide) ?_
    exact zaI hQ hx hb hr hlk hP hS hI dX11_line_21
  · skip
    obtain ⟨ha_q_1, hk_q_1, hr_q_1⟩ := p_1 _ rfl
    refine lv_astore (lv' := [(4, .ref q_1), (0, .ref a0), (1, .int x1), (2, .int x2), (3, .int x3)]) hx hb dX11_line_5 hl (by decide) rfl (fun ls hl => ?_)
    refine lv_aload hx hb dX11_line_7 (lv_at hl 0 rfl) ?_
    refine lv_ifnull hx hb dX11_line_9 ?_
    refine lv_iload_n hx hb dX11_line_12 rfl (lv_at hl 3 rfl) ?_
    refine zcS (zrS (As := [.int x2]) (rest := []) C hs hP hS (c_X11_isSide l D K hO vi va vg hI x2) m_X11_isSide wm_X11_221 ⟨by decide, by decide⟩ hl.1 (Nat.le_of_ble_eq_true rfl) dX11_line_13) (fun x_2 p_2 => ?_)
    have pp_2 : (x_2.toInt ≠ 0 → 0 ≤ x2.toInt ∧ x2.toInt ≤ 1) := p_2.2
    refine bz_ne (tgt := 22) hx hb rfl dX11_line_16 (by decide) (fun c_3 => ?_) (fun c_3 => ?_)
    · skip
      refine lv_aload hx hb dX11_line_22 (lv_at hl 0 rfl) ?_
      refine zcS (zrV (As := []) (b := q_1) (rest := []) C hs hP hS (c_X9_isEnd l D K hO vi va vg hI q_1 ha_q_1 hk_q_1) m_X9_isEnd wm_X11_237 (zrecv hs hP ha_q_1 (zF_8 hk_q_1) rfl) ⟨by decide, by decide⟩ hl.1 (Nat.le_of_ble_eq_true rfl) dX11_line_24) (fun x_4 p_4 => ?_)
      refine bz_eq (tgt := 44) hx hb rfl dX11_line_27 (by decide) (fun c_5 => ?_) (fun c_5 => ?_)
      · skip
        refine lv_bipush (v := (-4)) hx hb dX11_line_44 (by decide) ?_
        exact zaI hQ hx hb hr hlk hP hS hI dX11_line_46
      · skip
        refine lv_aload_n hx hb dX11_line_30 rfl (lv_at hl 1 rfl) ?_
        refine zg_10_8 C hs hP ha0 hk0 wf_X11_53 dX11_line_31 ?_
        have hf_6 := hO.r (j := 8) ha0 hk0 (rfl : zX 10 8 = some (2, 0))
        refine lv_aload hx hb dX11_line_34 (lv_at hl 0 rfl) ?_
        refine lv_iload_n hx hb dX11_line_36 rfl (lv_at hl 3 rfl) ?_
        refine lv_iload_n hx hb dX11_line_37 rfl (lv_at hl 4 rfl) ?_
        refine zcI (zrV (As := [.ref q_1, .int x2, .int x3]) (b := zr K a0 8) (rest := []) C hs hP hS (c_X2_lineCard l D K hO vi va vg hI (zr K a0 8) hf_6.1 hf_6.2.1 q_1 ha_q_1 hk_q_1 x2 x3) m_X2_lineCard wm_X11_244 (zrecv hs hP hf_6.1 (zF_2 hf_6.2.1) rfl) ⟨by decide, by decide⟩ hl.1 (Nat.le_of_ble_eq_true rfl) dX11_line_38) hS (fun x_7 V_7 H locs p_7 hP hS => ?_)
        obtain ⟨vi_7, va_7, vg_7⟩ := V_7
        have hI := p_7
        try dsimp only at hI
        refine lv_goto (tgt := 46) hx hb dX11_line_41 (by decide) ?_
        exact zaI hQ hx hb hr hlk hP hS hI dX11_line_46
    · skip
      refine lv_bipush (v := (-2)) hx hb dX11_line_19 (by decide) ?_
      exact zaI hQ hx hb hr hlk hP hS hI dX11_line_21
set_option maxHeartbeats 4000000 in
set_option maxRecDepth 100000 in
theorem c_X11_claim (l : Launch) (D : va_G) (K : zK) (hO : zOk K) (vi va : Nat → Nat → Int32) (vg : Nat → Nat → Option Nat) (hI : zI K (vi, va, vg)) (a0 : Nat) (ha0 : a0 ∈ zl K) (hk0 : zk K a0 = 10) (x1 : Int32) (x2 : Int32) (x3 : Int32) : Met l yX11_claim (zc yX11_claim cX11_claim 6 (some .int)) (rmd 23) (va_Pc [.ref a0, .int x1, .int x2, .int x3] (zB D K (vi, va, vg))) (zQi D K (fun r V' => zI K V')) 0 0 (zA K) := by
  refine zin (by decide) (Nat.le_of_ble_eq_true rfl) ?_
  intro p e s m args below meth c ls Q hQ C hr hlk hP hs hl
  have C : CallFix p m c cX11_claim 6 s args zw RX11 := C
  obtain ⟨hx, hb, hml, hown, hts⟩ := id C
  have hS : va_S (zA K) s.heap s.heap [] := va_S.rf
  have hl : lv_has ls 6 [(0, .ref a0), (1, .int x1), (2, .int x2), (3, .int x3)] := hl
  refine lv_aload_n hx hb dX11_claim_0 rfl (lv_at hl 0 rfl) ?_
  refine lv_iload_n hx hb dX11_claim_1 rfl (lv_at hl 1 rfl) ?_
  refine zcSq (zrV (As := [.int x1]) (b := a0) (rest := []) C hs hP hS (c_X11_tableAt l D K hO vi va vg hI a0 ha0 hk0 x1) m_X11_tableAt wm_X11_83 (zrecv hs hP ha0 (zF_10 hk0) rfl) ⟨by decide, by decide⟩ hl.1 (Nat.le_of_ble_eq_true rfl) dX11_claim_2) (fun p_1 => ?_) (fun q_1 p_1 => ?_)
  · skip
    refine lv_astoreN (lv' := [(4, .null), (0, .ref a0), (1, .int x1), (2, .int x2), (3, .int x3)]) hx hb dX11_claim_5 hl (by decide) rfl (fun ls hl => ?_)
    refine lv_aloadN hx hb dX11_claim_7 (lv_at hl 0 rfl) ?_
    refine lv_ifnullN (tgt := 19) hx hb dX11_claim_9 (by decide) ?_
    refine lv_bipush (v := (-2)) hx hb dX11_claim_19 (by decide) ?_
    exact zaI hQ hx hb hr hlk hP hS hI dX11_claim_21
  · skip
    obtain ⟨ha_q_1, hk_q_1, hr_q_1⟩ := p_1 _ rfl
    refine lv_astore (lv' := [(4, .ref q_1), (0, .ref a0), (1, .int x1), (2, .int x2), (3, .int x3)]) hx hb dX11_claim_5 hl (by decide) rfl (fun ls hl => ?_)
    refine lv_aload hx hb dX11_claim_7 (lv_at hl 0 rfl) ?_
    refine lv_ifnull hx hb dX11_claim_9 ?_
    refine lv_iload_n hx hb dX11_claim_12 rfl (lv_at hl 3 rfl) ?_
    refine zcS (zrS (As := [.int x2]) (rest := []) C hs hP hS (c_X11_isSide l D K hO vi va vg hI x2) m_X11_isSide wm_X11_221 ⟨by decide, by decide⟩ hl.1 (Nat.le_of_ble_eq_true rfl) dX11_claim_13) (fun x_2 p_2 => ?_)
    have pp_2 : (x_2.toInt ≠ 0 → 0 ≤ x2.toInt ∧ x2.toInt ≤ 1) := p_2.2
    refine bz_ne (tgt := 22) hx hb rfl dX11_claim_16 (by decide) (fun c_3 => ?_) (fun c_3 => ?_)
    · skip
      refine lv_iload_n hx hb dX11_claim_22 rfl (lv_at hl 4 rfl) ?_
      refine bz_lt (tgt := 31) hx hb rfl dX11_claim_23 (by decide) (fun c_4 => ?_) (fun c_4 => ?_)
      · skip
        refine lv_bipush (v := (-3)) hx hb dX11_claim_31 (by decide) ?_
        exact zaI hQ hx hb hr hlk hP hS hI dX11_claim_33
      · skip
        refine lv_iload_n hx hb dX11_claim_26 rfl (lv_at hl 4 rfl) ?_
        refine lv_iconst (v := 4) hx hb dX11_claim_27 (by decide) ?_
        refine bi_le (tgt := 34) hx hb rfl ti_4 dX11_claim_28 (by decide) (fun c_5 => ?_) (fun c_5 => ?_)
        · skip
          refine lv_aload hx hb dX11_claim_34 (lv_at hl 0 rfl) ?_
          refine zcS (zrV (As := []) (b := q_1) (rest := []) C hs hP hS (c_X9_isEnd l D K hO vi va vg hI q_1 ha_q_1 hk_q_1) m_X9_isEnd wm_X11_237 (zrecv hs hP ha_q_1 (zF_8 hk_q_1) rfl) ⟨by decide, by decide⟩ hl.1 (Nat.le_of_ble_eq_true rfl) dX11_claim_36) (fun x_6 p_6 => ?_)
          refine bz_ne (tgt := 45) hx hb rfl dX11_claim_39 (by decide) (fun c_7 => ?_) (fun c_7 => ?_)
          · skip
            refine lv_aload_n hx hb dX11_claim_45 rfl (lv_at hl 1 rfl) ?_
            refine zg_10_8 C hs hP ha0 hk0 wf_X11_53 dX11_claim_46 ?_
            have hf_8 := hO.r (j := 8) ha0 hk0 (rfl : zX 10 8 = some (2, 0))
            refine lv_aload hx hb dX11_claim_49 (lv_at hl 0 rfl) ?_
            refine lv_iload_n hx hb dX11_claim_51 rfl (lv_at hl 3 rfl) ?_
            refine zcI (zrV (As := [.ref q_1, .int x2]) (b := zr K a0 8) (rest := []) C hs hP hS (c_X2_bestOf l D K hO vi va vg hI (zr K a0 8) hf_8.1 hf_8.2.1 q_1 ha_q_1 hk_q_1 x2) m_X2_bestOf wm_X11_240 (zrecv hs hP hf_8.1 (zF_2 hf_8.2.1) rfl) ⟨by decide, by decide⟩ hl.1 (Nat.le_of_ble_eq_true rfl) dX11_claim_52) hS (fun x_9 V_9 H locs p_9 hP hS => ?_)
            obtain ⟨vi_9, va_9, vg_9⟩ := V_9
            have hI := p_9
            try dsimp only at hI
            refine lv_iload_n hx hb dX11_claim_55 rfl (lv_at hl 4 rfl) ?_
            have J_64_12 : ∀ (y_11 : Int32) (ls : Array Slot), (y_11 = 0 ∨ y_11 = 1) → lv_has ls 6 [(0, .ref a0), (1, .int x1), (2, .int x2), (3, .int x3), (4, .ref q_1)] → W p l e (rmd 23) s m args below meth c H locs 0 0 Q (F0 m 64 ls [.int y_11]) := by
              intro y_11 ls hb_y_11 hl
              refine lv_istore (lv' := [(5, .int y_11), (0, .ref a0), (1, .int x1), (2, .int x2), (3, .int x3), (4, .ref q_1)]) hx hb dX11_claim_64 hl (by decide) rfl (fun ls hl => ?_)
              refine lv_iload hx hb dX11_claim_66 (lv_at hl 0 rfl) ?_
              have J_77_16 : ∀ (vi_17 : Nat → Nat → Int32) (va_17 : Nat → Nat → Int32) (vg_17 : Nat → Nat → Option Nat) (H : Heap) (locs : List Loc) (ls : Array Slot), zI K (vi_17, va_17, vg_17) → va_P D vwCl (zW K (vi_17, va_17, vg_17)) H → va_S (zA K) s.heap H locs → lv_has ls 6 [(0, .ref a0), (1, .int x1), (2, .int x2), (3, .int x3), (4, .ref q_1), (5, .int y_11)] → W p l e (rmd 23) s m args below meth c H locs 0 0 Q (F0 m 77 ls []) := by
                intro vi_17 va_17 vg_17 H locs ls hI hP hS hl
                refine lv_aload hx hb dX11_claim_77 (lv_at hl 4 rfl) ?_
                refine zg_8_13 C hs hP ha_q_1 hk_q_1 wf_X11_135 dX11_claim_79 ?_
                have hf_19 := hO.r (j := 13) ha_q_1 hk_q_1 (rfl : zX 8 13 = some (1, 0))
                refine zg_1_17 C hs hP hf_19.1 hf_19.2.1 wf_X11_160 dX11_claim_82 ?_
                have hf_20 := hO.r (j := 17) hf_19.1 hf_19.2.1 (rfl : zX 1 17 = some (7, 0))
                refine lv_iconst (v := 5) hx hb dX11_claim_85 (by decide) ?_
                refine lv_iload_n hx hb dX11_claim_86 rfl (lv_at hl 2 rfl) ?_
                refine lv_iload_n hx hb dX11_claim_87 rfl (lv_at hl 3 rfl) ?_
                refine lv_iconst (v := 0) hx hb dX11_claim_88 (by decide) ?_
                refine zcS (zrS (As := [.int 5, .int x2, .int x3, .int 0]) (rest := [.ref (zr K (zr K q_1 13) 17)]) C hs hP hS (c_X11_packed l D K hO vi_17 va_17 vg_17 hI 5 x2 x3 0) m_X11_packed wm_X11_164 ⟨by decide, by decide⟩ hl.1 (Nat.le_of_ble_eq_true rfl) dX11_claim_89) (fun x_21 p_21 => ?_)
                refine zcV (zrV (As := [.int x_21]) (b := zr K (zr K q_1 13) 17) (rest := []) C hs hP hS (c_X8_add l D K hO vi_17 va_17 vg_17 hI (zr K (zr K q_1 13) 17) hf_20.1 hf_20.2.1 x_21) m_X8_add wm_X11_168 (zrecv hs hP hf_20.1 (zF_7 hf_20.2.1) rfl) ⟨by decide, by decide⟩ hl.1 (Nat.le_of_ble_eq_true rfl) dX11_claim_92) hS (fun V_22 H locs p_22 hP hS => ?_)
                obtain ⟨vi_22, va_22, vg_22⟩ := V_22
                obtain ⟨hI, hg_22⟩ := p_22
                try dsimp only at hI hg_22
                replace hg_22 := hg_22.symm
                subst hg_22
                refine lv_iload hx hb dX11_claim_95 (lv_at hl 5 rfl) ?_
                refine bz_eq (tgt := 111) hx hb rfl dX11_claim_97 (by decide) (fun c_23 => ?_) (fun c_23 => ?_)
                · skip
                  refine lv_iload hx hb dX11_claim_111 (lv_at hl 5 rfl) ?_
                  refine bz_eq (tgt := 120) hx hb rfl dX11_claim_113 (by decide) (fun c_24 => ?_) (fun c_24 => ?_)
                  · skip
                    refine lv_iconst (v := 0) hx hb dX11_claim_120 (by decide) ?_
                    exact zaI hQ hx hb hr hlk hP hS hI dX11_claim_121
                  · skip
                    refine lv_iconst (v := 1) hx hb dX11_claim_116 (by decide) ?_
                    refine lv_goto (tgt := 121) hx hb dX11_claim_117 (by decide) ?_
                    exact zaI hQ hx hb hr hlk hP hS hI dX11_claim_121
                · skip
                  refine lv_aload hx hb dX11_claim_100 (lv_at hl 4 rfl) ?_
                  refine lv_aload_n hx hb dX11_claim_102 rfl (lv_at hl 0 rfl) ?_
                  refine zg_10_6 C hs hP ha0 hk0 wf_X11_43 dX11_claim_103 ?_
                  have hf_25 := hO.r (j := 6) ha0 hk0 (rfl : zX 10 6 = some (5, 0))
                  refine lv_iload_n hx hb dX11_claim_106 rfl (lv_at hl 2 rfl) ?_
                  refine lv_iload_n hx hb dX11_claim_107 rfl (lv_at hl 3 rfl) ?_
                  have g_26 := z_rng x2
                  have g_27 := z_rng x3
                  have hq_28 : 0 ≤ x2.toInt ∧ x2.toInt ≤ 1 := by first | assumption | omega
                  refine zcV (zrV (As := [.ref (zr K a0 6), .int x2, .int x3]) (b := q_1) (rest := []) C hs hP hS (c_X9_claimBy l D K hO vi_22 va_22 vg_17 hI q_1 ha_q_1 hk_q_1 (zr K a0 6) hf_25.1 hf_25.2.1 x2 x3 hq_28) m_X9_claimBy wm_X11_257 (zrecv hs hP ha_q_1 (zF_8 hk_q_1) rfl) ⟨by decide, by decide⟩ hl.1 (Nat.le_of_ble_eq_true rfl) dX11_claim_108) hS (fun V_29 H locs p_29 hP hS => ?_)
                  obtain ⟨vi_29, va_29, vg_29⟩ := V_29
                  obtain ⟨hI, hg_29⟩ := p_29
                  try dsimp only at hI hg_29
                  replace hg_29 := hg_29.symm
                  subst hg_29
                  refine lv_iload hx hb dX11_claim_111 (lv_at hl 5 rfl) ?_
                  refine bz_eq (tgt := 120) hx hb rfl dX11_claim_113 (by decide) (fun c_30 => ?_) (fun c_30 => ?_)
                  · skip
                    refine lv_iconst (v := 0) hx hb dX11_claim_120 (by decide) ?_
                    exact zaI hQ hx hb hr hlk hP hS hI dX11_claim_121
                  · skip
                    refine lv_iconst (v := 1) hx hb dX11_claim_116 (by decide) ?_
                    refine lv_goto (tgt := 121) hx hb dX11_claim_117 (by decide) ?_
                    exact zaI hQ hx hb hr hlk hP hS hI dX11_claim_121
              refine bz_eq (tgt := 77) hx hb rfl dX11_claim_68 (by decide) (fun c_14 => ?_) (fun c_14 => ?_)
              · skip
                exact J_77_16 vi_9 va_9 vg_9 _ _ _ hI hP hS (lv_sub hl [1, 2, 3, 4, 5, 0] rfl)
              · skip
                refine lv_aload_n hx hb dX11_claim_71 rfl (lv_at hl 1 rfl) ?_
                refine lv_aload hx hb dX11_claim_72 (lv_at hl 5 rfl) ?_
                refine zcV (zrV (As := [.ref q_1]) (b := a0) (rest := []) C hs hP hS (c_X11_keep l D K hO vi_9 va_9 vg_9 hI a0 ha0 hk0 q_1 ha_q_1 hk_q_1) m_X11_keep wm_X11_144 (zrecv hs hP ha0 (zF_10 hk0) rfl) ⟨by decide, by decide⟩ hl.1 (Nat.le_of_ble_eq_true rfl) dX11_claim_74) hS (fun V_31 H locs p_31 hP hS => ?_)
                obtain ⟨vi_31, va_31, vg_31⟩ := V_31
                have hI := p_31
                try dsimp only at hI
                exact J_77_16 vi_31 va_31 vg_31 _ _ _ hI hP hS (lv_sub hl [1, 2, 3, 4, 5, 0] rfl)
            refine bi_lt (tgt := 63) hx hb rfl rfl dX11_claim_56 (by decide) (fun c_10 => ?_) (fun c_10 => ?_)
            · skip
              refine lv_iconst (v := 0) hx hb dX11_claim_63 (by decide) ?_
              exact J_64_12 0 _ (Or.inl rfl) (lv_sub hl [1, 2, 3, 4, 0] rfl)
            · skip
              refine lv_iconst (v := 1) hx hb dX11_claim_59 (by decide) ?_
              refine lv_goto (tgt := 64) hx hb dX11_claim_60 (by decide) ?_
              exact J_64_12 1 _ (Or.inr rfl) (lv_sub hl [1, 2, 3, 4, 0] rfl)
          · skip
            refine lv_bipush (v := (-4)) hx hb dX11_claim_42 (by decide) ?_
            exact zaI hQ hx hb hr hlk hP hS hI dX11_claim_44
        · skip
          refine lv_bipush (v := (-3)) hx hb dX11_claim_31 (by decide) ?_
          exact zaI hQ hx hb hr hlk hP hS hI dX11_claim_33
    · skip
      refine lv_bipush (v := (-2)) hx hb dX11_claim_19 (by decide) ?_
      exact zaI hQ hx hb hr hlk hP hS hI dX11_claim_21
set_option maxHeartbeats 4000000 in
set_option maxRecDepth 100000 in
theorem c_X11_match (l : Launch) (D : va_G) (K : zK) (hO : zOk K) (vi va : Nat → Nat → Int32) (vg : Nat → Nat → Option Nat) (hI : zI K (vi, va, vg)) (a0 : Nat) (ha0 : a0 ∈ zl K) (hk0 : zk K a0 = 10) (x1 : Int32) (x2 : Int32) : Met l yX11_match (zc yX11_match cX11_match 5 (some .int)) (rmd 1) (va_Pc [.ref a0, .int x1, .int x2] (zB D K (vi, va, vg))) (zQi D K (fun r V' => zI K V')) 0 0 (zA K) := by
  refine zin (by decide) (Nat.le_of_ble_eq_true rfl) ?_
  intro p e s m args below meth c ls Q hQ C hr hlk hP hs hl
  have C : CallFix p m c cX11_match 5 s args zw RX11 := C
  obtain ⟨hx, hb, hml, hown, hts⟩ := id C
  have hS : va_S (zA K) s.heap s.heap [] := va_S.rf
  have hl : lv_has ls 5 [(0, .ref a0), (1, .int x1), (2, .int x2)] := hl
  refine lv_aload_n hx hb dX11_match_0 rfl (lv_at hl 0 rfl) ?_
  refine lv_iload_n hx hb dX11_match_1 rfl (lv_at hl 1 rfl) ?_
  refine zcSq (zrV (As := [.int x1]) (b := a0) (rest := []) C hs hP hS (c_X11_tableAt l D K hO vi va vg hI a0 ha0 hk0 x1) m_X11_tableAt wm_X11_83 (zrecv hs hP ha0 (zF_10 hk0) rfl) ⟨by decide, by decide⟩ hl.1 (Nat.le_of_ble_eq_true rfl) dX11_match_2) (fun p_1 => ?_) (fun q_1 p_1 => ?_)
  · skip
    refine lv_astore_nN (lv' := [(3, .null), (0, .ref a0), (1, .int x1), (2, .int x2)]) hx hb dX11_match_5 rfl hl (by decide) rfl (fun ls hl => ?_)
    refine lv_aload_nN hx hb dX11_match_6 rfl (lv_at hl 0 rfl) ?_
    refine lv_ifnonnullN hx hb dX11_match_7 ?_
    refine lv_bipush (v := (-2)) hx hb dX11_match_10 (by decide) ?_
    exact zaI hQ hx hb hr hlk hP hS hI dX11_match_12
  · skip
    obtain ⟨ha_q_1, hk_q_1, hr_q_1⟩ := p_1 _ rfl
    refine lv_astore_n (lv' := [(3, .ref q_1), (0, .ref a0), (1, .int x1), (2, .int x2)]) hx hb dX11_match_5 rfl hl (by decide) rfl (fun ls hl => ?_)
    refine lv_aload_n hx hb dX11_match_6 rfl (lv_at hl 0 rfl) ?_
    refine lv_ifnonnull (tgt := 13) hx hb dX11_match_7 (by decide) ?_
    refine lv_iload_n hx hb dX11_match_13 rfl (lv_at hl 3 rfl) ?_
    refine lv_iconst (v := 1) hx hb dX11_match_14 (by decide) ?_
    refine bi_lt (tgt := 25) hx hb rfl ti_1 dX11_match_15 (by decide) (fun c_2 => ?_) (fun c_2 => ?_)
    · skip
      refine lv_bipush (v := (-3)) hx hb dX11_match_25 (by decide) ?_
      exact zaI hQ hx hb hr hlk hP hS hI dX11_match_27
    · skip
      refine lv_iload_n hx hb dX11_match_18 rfl (lv_at hl 3 rfl) ?_
      refine lv_sipush (v := 200) hx hb dX11_match_19 (by decide) ?_
      refine bi_le (tgt := 28) hx hb rfl ti_200 dX11_match_22 (by decide) (fun c_3 => ?_) (fun c_3 => ?_)
      · skip
        refine lv_aload_n hx hb dX11_match_28 rfl (lv_at hl 0 rfl) ?_
        refine zcS (zrV (As := []) (b := q_1) (rest := []) C hs hP hS (c_X9_isOn l D K hO vi va vg hI q_1 ha_q_1 hk_q_1) m_X9_isOn wm_X11_90 (zrecv hs hP ha_q_1 (zF_8 hk_q_1) rfl) ⟨by decide, by decide⟩ hl.1 (Nat.le_of_ble_eq_true rfl) dX11_match_29) (fun x_4 p_4 => ?_)
        refine bz_eq (tgt := 38) hx hb rfl dX11_match_32 (by decide) (fun c_5 => ?_) (fun c_5 => ?_)
        · skip
          refine lv_aload_n hx hb dX11_match_38 rfl (lv_at hl 0 rfl) ?_
          refine zg_8_4 C hs hP ha_q_1 hk_q_1 wf_X11_116 dX11_match_39 ?_
          refine lv_istore (lv' := [(4, .int (vi q_1 4)), (3, .ref q_1), (0, .ref a0), (1, .int x1), (2, .int x2)]) hx hb dX11_match_42 hl (by decide) rfl (fun ls hl => ?_)
          refine lv_aload_n hx hb dX11_match_44 rfl (lv_at hl 1 rfl) ?_
          refine lv_iload_n hx hb dX11_match_45 rfl (lv_at hl 4 rfl) ?_
          refine kp_8_3 C hO hs hP hS ha_q_1 hk_q_1 wf_X11_119 hI dX11_match_46 (fun vi_6 H locs hI hP hS => ?_)
          refine lv_aload_n hx hb dX11_match_49 rfl (lv_at hl 1 rfl) ?_
          refine lv_iconst (v := 0) hx hb dX11_match_50 (by decide) ?_
          refine kp_8_4 C hO hs hP hS ha_q_1 hk_q_1 wf_X11_116 hI dX11_match_51 (fun vi_7 H locs hI hP hS => ?_)
          refine lv_aload_n hx hb dX11_match_54 rfl (lv_at hl 1 rfl) ?_
          refine zg_8_8 C hs hP ha_q_1 hk_q_1 wf_X11_122 dX11_match_55 ?_
          have hf_8 := hO.r (j := 8) ha_q_1 hk_q_1 (rfl : zX 8 8 = some (20, 4))
          refine lv_iconst (v := 0) hx hb dX11_match_58 (by decide) ?_
          refine zcV (zrS (As := [.ref (zr K q_1 8), .int 0]) (rest := []) C hs hP hS (c_J7_fill_53178 l D K hO vi_7 va vg hI (zr K q_1 8) hf_8.1 hf_8.2.1 0) m_J7_fill_53178 wm_X11_125 ⟨by decide, by decide⟩ hl.1 (Nat.le_of_ble_eq_true rfl) dX11_match_59) hS (fun V_9 H locs p_9 hP hS => ?_)
          obtain ⟨vi_9, va_9, vg_9⟩ := V_9
          obtain ⟨hI, hg_9⟩ := p_9
          try dsimp only at hI hg_9
          replace hg_9 := hg_9.symm
          subst hg_9
          refine lv_iload hx hb dX11_match_62 (lv_at hl 0 rfl) ?_
          exact zaI hQ hx hb hr hlk hP hS hI dX11_match_64
        · skip
          refine lv_bipush (v := (-4)) hx hb dX11_match_35 (by decide) ?_
          exact zaI hQ hx hb hr hlk hP hS hI dX11_match_37
      · skip
        refine lv_bipush (v := (-3)) hx hb dX11_match_25 (by decide) ?_
        exact zaI hQ hx hb hr hlk hP hS hI dX11_match_27
set_option maxHeartbeats 4000000 in
set_option maxRecDepth 100000 in
theorem c_X11_doubled (l : Launch) (D : va_G) (K : zK) (hO : zOk K) (vi va : Nat → Nat → Int32) (vg : Nat → Nat → Option Nat) (hI : zI K (vi, va, vg)) (a0 : Nat) (ha0 : a0 ∈ zl K) (hk0 : zk K a0 = 10) (x1 : Int32) (x2 : Int32) : Met l yX11_doubled (zc yX11_doubled cX11_doubled 4 (some .int)) (rmd 6) (va_Pc [.ref a0, .int x1, .int x2] (zB D K (vi, va, vg))) (zQi D K (fun r V' => zI K V')) 0 0 (zA K) := by
  refine zin (by decide) (Nat.le_of_ble_eq_true rfl) ?_
  intro p e s m args below meth c ls Q hQ C hr hlk hP hs hl
  have C : CallFix p m c cX11_doubled 4 s args zw RX11 := C
  obtain ⟨hx, hb, hml, hown, hts⟩ := id C
  have hS : va_S (zA K) s.heap s.heap [] := va_S.rf
  have hl : lv_has ls 4 [(0, .ref a0), (1, .int x1), (2, .int x2)] := hl
  refine lv_aload_n hx hb dX11_doubled_0 rfl (lv_at hl 0 rfl) ?_
  refine lv_iload_n hx hb dX11_doubled_1 rfl (lv_at hl 1 rfl) ?_
  refine zcSq (zrV (As := [.int x1]) (b := a0) (rest := []) C hs hP hS (c_X11_tableAt l D K hO vi va vg hI a0 ha0 hk0 x1) m_X11_tableAt wm_X11_83 (zrecv hs hP ha0 (zF_10 hk0) rfl) ⟨by decide, by decide⟩ hl.1 (Nat.le_of_ble_eq_true rfl) dX11_doubled_2) (fun p_1 => ?_) (fun q_1 p_1 => ?_)
  · skip
    refine lv_astore_nN (lv' := [(3, .null), (0, .ref a0), (1, .int x1), (2, .int x2)]) hx hb dX11_doubled_5 rfl hl (by decide) rfl (fun ls hl => ?_)
    refine lv_aload_nN hx hb dX11_doubled_6 rfl (lv_at hl 0 rfl) ?_
    refine lv_ifnullN (tgt := 17) hx hb dX11_doubled_7 (by decide) ?_
    refine lv_bipush (v := (-2)) hx hb dX11_doubled_17 (by decide) ?_
    exact zaI hQ hx hb hr hlk hP hS hI dX11_doubled_19
  · skip
    obtain ⟨ha_q_1, hk_q_1, hr_q_1⟩ := p_1 _ rfl
    refine lv_astore_n (lv' := [(3, .ref q_1), (0, .ref a0), (1, .int x1), (2, .int x2)]) hx hb dX11_doubled_5 rfl hl (by decide) rfl (fun ls hl => ?_)
    refine lv_aload_n hx hb dX11_doubled_6 rfl (lv_at hl 0 rfl) ?_
    refine lv_ifnull hx hb dX11_doubled_7 ?_
    refine lv_iload_n hx hb dX11_doubled_10 rfl (lv_at hl 3 rfl) ?_
    refine zcS (zrS (As := [.int x2]) (rest := []) C hs hP hS (c_X11_isSeat l D K hO vi va vg hI x2) m_X11_isSeat wm_X11_87 ⟨by decide, by decide⟩ hl.1 (Nat.le_of_ble_eq_true rfl) dX11_doubled_11) (fun x_2 p_2 => ?_)
    have pp_2 : (x_2.toInt ≠ 0 → 0 ≤ x2.toInt ∧ x2.toInt ≤ 3) := p_2.2
    refine bz_ne (tgt := 20) hx hb rfl dX11_doubled_14 (by decide) (fun c_3 => ?_) (fun c_3 => ?_)
    · skip
      refine lv_aload_n hx hb dX11_doubled_20 rfl (lv_at hl 0 rfl) ?_
      refine lv_iload_n hx hb dX11_doubled_21 rfl (lv_at hl 3 rfl) ?_
      refine zcS (zrV (As := [.int x2]) (b := q_1) (rest := []) C hs hP hS (c_X9_canDouble l D K hO vi va vg hI q_1 ha_q_1 hk_q_1 x2) m_X9_canDouble wm_X11_184 (zrecv hs hP ha_q_1 (zF_8 hk_q_1) rfl) ⟨by decide, by decide⟩ hl.1 (Nat.le_of_ble_eq_true rfl) dX11_doubled_22) (fun x_4 p_4 => ?_)
      refine bz_ne (tgt := 31) hx hb rfl dX11_doubled_25 (by decide) (fun c_5 => ?_) (fun c_5 => ?_)
      · skip
        refine lv_aload_n hx hb dX11_doubled_31 rfl (lv_at hl 1 rfl) ?_
        refine lv_aload_n hx hb dX11_doubled_32 rfl (lv_at hl 0 rfl) ?_
        refine zcV (zrV (As := [.ref q_1]) (b := a0) (rest := []) C hs hP hS (c_X11_keep l D K hO vi va vg hI a0 ha0 hk0 q_1 ha_q_1 hk_q_1) m_X11_keep wm_X11_144 (zrecv hs hP ha0 (zF_10 hk0) rfl) ⟨by decide, by decide⟩ hl.1 (Nat.le_of_ble_eq_true rfl) dX11_doubled_33) hS (fun V_6 H locs p_6 hP hS => ?_)
        obtain ⟨vi_6, va_6, vg_6⟩ := V_6
        have hI := p_6
        try dsimp only at hI
        refine lv_aload_n hx hb dX11_doubled_36 rfl (lv_at hl 0 rfl) ?_
        refine zg_8_13 C hs hP ha_q_1 hk_q_1 wf_X11_135 dX11_doubled_37 ?_
        have hf_7 := hO.r (j := 13) ha_q_1 hk_q_1 (rfl : zX 8 13 = some (1, 0))
        refine zg_1_17 C hs hP hf_7.1 hf_7.2.1 wf_X11_160 dX11_doubled_40 ?_
        have hf_8 := hO.r (j := 17) hf_7.1 hf_7.2.1 (rfl : zX 1 17 = some (7, 0))
        refine lv_iconst (v := 2) hx hb dX11_doubled_43 (by decide) ?_
        refine lv_iload_n hx hb dX11_doubled_44 rfl (lv_at hl 3 rfl) ?_
        refine lv_iconst (v := 0) hx hb dX11_doubled_45 (by decide) ?_
        refine lv_iconst (v := 0) hx hb dX11_doubled_46 (by decide) ?_
        refine zcS (zrS (As := [.int 2, .int x2, .int 0, .int 0]) (rest := [.ref (zr K (zr K q_1 13) 17)]) C hs hP hS (c_X11_packed l D K hO vi_6 va_6 vg_6 hI 2 x2 0 0) m_X11_packed wm_X11_164 ⟨by decide, by decide⟩ hl.1 (Nat.le_of_ble_eq_true rfl) dX11_doubled_47) (fun x_9 p_9 => ?_)
        refine zcV (zrV (As := [.int x_9]) (b := zr K (zr K q_1 13) 17) (rest := []) C hs hP hS (c_X8_add l D K hO vi_6 va_6 vg_6 hI (zr K (zr K q_1 13) 17) hf_8.1 hf_8.2.1 x_9) m_X8_add wm_X11_168 (zrecv hs hP hf_8.1 (zF_7 hf_8.2.1) rfl) ⟨by decide, by decide⟩ hl.1 (Nat.le_of_ble_eq_true rfl) dX11_doubled_50) hS (fun V_10 H locs p_10 hP hS => ?_)
        obtain ⟨vi_10, va_10, vg_10⟩ := V_10
        obtain ⟨hI, hg_10⟩ := p_10
        try dsimp only at hI hg_10
        replace hg_10 := hg_10.symm
        subst hg_10
        refine lv_aload_n hx hb dX11_doubled_53 rfl (lv_at hl 0 rfl) ?_
        refine zg_8_13 C hs hP ha_q_1 hk_q_1 wf_X11_135 dX11_doubled_54 ?_
        refine lv_dup hx hb dX11_doubled_57 rfl ?_
        refine zg_1_7 C hs hP hf_7.1 hf_7.2.1 wf_X11_187 dX11_doubled_58 ?_
        refine lv_iconst (v := 1) hx hb dX11_doubled_61 (by decide) ?_
        refine lv_iadd hx hb dX11_doubled_62 ?_
        refine lv_topi (fun x_11 ex_11 => ?_)
        refine kp_1_7 C hO hs hP hS hf_7.1 hf_7.2.1 wf_X11_187 hI dX11_doubled_63 (fun vi_12 H locs hI hP hS => ?_)
        refine lv_aload_n hx hb dX11_doubled_66 rfl (lv_at hl 0 rfl) ?_
        refine zg_8_13 C hs hP ha_q_1 hk_q_1 wf_X11_135 dX11_doubled_67 ?_
        refine zg_1_7 C hs hP hf_7.1 hf_7.2.1 wf_X11_187 dX11_doubled_70 ?_
        exact zaI hQ hx hb hr hlk hP hS hI dX11_doubled_73
      · skip
        refine lv_bipush (v := (-4)) hx hb dX11_doubled_28 (by decide) ?_
        exact zaI hQ hx hb hr hlk hP hS hI dX11_doubled_30
    · skip
      refine lv_bipush (v := (-2)) hx hb dX11_doubled_17 (by decide) ?_
      exact zaI hQ hx hb hr hlk hP hS hI dX11_doubled_19
set_option maxHeartbeats 4000000 in
set_option maxRecDepth 100000 in
theorem c_X11_best (l : Launch) (D : va_G) (K : zK) (hO : zOk K) (vi va : Nat → Nat → Int32) (vg : Nat → Nat → Option Nat) (hI : zI K (vi, va, vg)) (a0 : Nat) (ha0 : a0 ∈ zl K) (hk0 : zk K a0 = 10) (x1 : Int32) (x2 : Int32) : Met l yX11_best (zc yX11_best cX11_best 4 (some .int)) (rmd 23) (va_Pc [.ref a0, .int x1, .int x2] (zB D K (vi, va, vg))) (zQi D K (fun r V' => zI K V')) 0 0 (zA K) := by
  refine zin (by decide) (Nat.le_of_ble_eq_true rfl) ?_
  intro p e s m args below meth c ls Q hQ C hr hlk hP hs hl
  have C : CallFix p m c cX11_best 4 s args zw RX11 := C
  obtain ⟨hx, hb, hml, hown, hts⟩ := id C
  have hS : va_S (zA K) s.heap s.heap [] := va_S.rf
  have hl : lv_has ls 4 [(0, .ref a0), (1, .int x1), (2, .int x2)] := hl
  refine lv_aload_n hx hb dX11_best_0 rfl (lv_at hl 0 rfl) ?_
  refine lv_iload_n hx hb dX11_best_1 rfl (lv_at hl 1 rfl) ?_
  refine zcSq (zrV (As := [.int x1]) (b := a0) (rest := []) C hs hP hS (c_X11_tableAt l D K hO vi va vg hI a0 ha0 hk0 x1) m_X11_tableAt wm_X11_83 (zrecv hs hP ha0 (zF_10 hk0) rfl) ⟨by decide, by decide⟩ hl.1 (Nat.le_of_ble_eq_true rfl) dX11_best_2) (fun p_1 => ?_) (fun q_1 p_1 => ?_)
  · skip
    refine lv_astore_nN (lv' := [(3, .null), (0, .ref a0), (1, .int x1), (2, .int x2)]) hx hb dX11_best_5 rfl hl (by decide) rfl (fun ls hl => ?_)
    refine lv_aload_nN hx hb dX11_best_6 rfl (lv_at hl 0 rfl) ?_
    refine lv_ifnullN (tgt := 17) hx hb dX11_best_7 (by decide) ?_
    refine lv_bipush (v := (-2)) hx hb dX11_best_17 (by decide) ?_
    exact zaI hQ hx hb hr hlk hP hS hI dX11_best_19
  · skip
    obtain ⟨ha_q_1, hk_q_1, hr_q_1⟩ := p_1 _ rfl
    refine lv_astore_n (lv' := [(3, .ref q_1), (0, .ref a0), (1, .int x1), (2, .int x2)]) hx hb dX11_best_5 rfl hl (by decide) rfl (fun ls hl => ?_)
    refine lv_aload_n hx hb dX11_best_6 rfl (lv_at hl 0 rfl) ?_
    refine lv_ifnull hx hb dX11_best_7 ?_
    refine lv_iload_n hx hb dX11_best_10 rfl (lv_at hl 3 rfl) ?_
    refine zcS (zrS (As := [.int x2]) (rest := []) C hs hP hS (c_X11_isSide l D K hO vi va vg hI x2) m_X11_isSide wm_X11_221 ⟨by decide, by decide⟩ hl.1 (Nat.le_of_ble_eq_true rfl) dX11_best_11) (fun x_2 p_2 => ?_)
    have pp_2 : (x_2.toInt ≠ 0 → 0 ≤ x2.toInt ∧ x2.toInt ≤ 1) := p_2.2
    refine bz_ne (tgt := 20) hx hb rfl dX11_best_14 (by decide) (fun c_3 => ?_) (fun c_3 => ?_)
    · skip
      refine lv_aload_n hx hb dX11_best_20 rfl (lv_at hl 0 rfl) ?_
      refine zcS (zrV (As := []) (b := q_1) (rest := []) C hs hP hS (c_X9_isEnd l D K hO vi va vg hI q_1 ha_q_1 hk_q_1) m_X9_isEnd wm_X11_237 (zrecv hs hP ha_q_1 (zF_8 hk_q_1) rfl) ⟨by decide, by decide⟩ hl.1 (Nat.le_of_ble_eq_true rfl) dX11_best_21) (fun x_4 p_4 => ?_)
      refine bz_eq (tgt := 39) hx hb rfl dX11_best_24 (by decide) (fun c_5 => ?_) (fun c_5 => ?_)
      · skip
        refine lv_bipush (v := (-4)) hx hb dX11_best_39 (by decide) ?_
        exact zaI hQ hx hb hr hlk hP hS hI dX11_best_41
      · skip
        refine lv_aload_n hx hb dX11_best_27 rfl (lv_at hl 1 rfl) ?_
        refine zg_10_8 C hs hP ha0 hk0 wf_X11_53 dX11_best_28 ?_
        have hf_6 := hO.r (j := 8) ha0 hk0 (rfl : zX 10 8 = some (2, 0))
        refine lv_aload_n hx hb dX11_best_31 rfl (lv_at hl 0 rfl) ?_
        refine lv_iload_n hx hb dX11_best_32 rfl (lv_at hl 3 rfl) ?_
        refine zcI (zrV (As := [.ref q_1, .int x2]) (b := zr K a0 8) (rest := []) C hs hP hS (c_X2_bestOf l D K hO vi va vg hI (zr K a0 8) hf_6.1 hf_6.2.1 q_1 ha_q_1 hk_q_1 x2) m_X2_bestOf wm_X11_240 (zrecv hs hP hf_6.1 (zF_2 hf_6.2.1) rfl) ⟨by decide, by decide⟩ hl.1 (Nat.le_of_ble_eq_true rfl) dX11_best_33) hS (fun x_7 V_7 H locs p_7 hP hS => ?_)
        obtain ⟨vi_7, va_7, vg_7⟩ := V_7
        have hI := p_7
        try dsimp only at hI
        refine lv_goto (tgt := 41) hx hb dX11_best_36 (by decide) ?_
        exact zaI hQ hx hb hr hlk hP hS hI dX11_best_41
    · skip
      refine lv_bipush (v := (-2)) hx hb dX11_best_17 (by decide) ?_
      exact zaI hQ hx hb hr hlk hP hS hI dX11_best_19
set_option maxHeartbeats 4000000 in
set_option maxRecDepth 100000 in
theorem c_X11_check (l : Launch) (D : va_G) (K : zK) (hO : zOk K) (vi va : Nat → Nat → Int32) (vg : Nat → Nat → Option Nat) (hI : zI K (vi, va, vg)) (a0 : Nat) (ha0 : a0 ∈ zl K) (hk0 : zk K a0 = 10) (x1 : Int32) (x2 : Int32) : Met l yX11_check (zc yX11_check cX11_check 5 (some .int)) (rmd 39) (va_Pc [.ref a0, .int x1, .int x2] (zB D K (vi, va, vg))) (zQi D K (fun r V' => zI K V')) 0 0 (zA K) := by
  refine zin (by decide) (Nat.le_of_ble_eq_true rfl) ?_
  intro p e s m args below meth c ls Q hQ C hr hlk hP hs hl
  have C : CallFix p m c cX11_check 5 s args zw RX11 := C
  obtain ⟨hx, hb, hml, hown, hts⟩ := id C
  have hS : va_S (zA K) s.heap s.heap [] := va_S.rf
  have hl : lv_has ls 5 [(0, .ref a0), (1, .int x1), (2, .int x2)] := hl
  refine lv_aload_n hx hb dX11_check_0 rfl (lv_at hl 0 rfl) ?_
  refine lv_iload_n hx hb dX11_check_1 rfl (lv_at hl 1 rfl) ?_
  refine zcSq (zrV (As := [.int x1]) (b := a0) (rest := []) C hs hP hS (c_X11_tableAt l D K hO vi va vg hI a0 ha0 hk0 x1) m_X11_tableAt wm_X11_83 (zrecv hs hP ha0 (zF_10 hk0) rfl) ⟨by decide, by decide⟩ hl.1 (Nat.le_of_ble_eq_true rfl) dX11_check_2) (fun p_1 => ?_) (fun q_1 p_1 => ?_)
  · skip
    refine lv_astore_nN (lv' := [(3, .null), (0, .ref a0), (1, .int x1), (2, .int x2)]) hx hb dX11_check_5 rfl hl (by decide) rfl (fun ls hl => ?_)
    refine lv_aload_nN hx hb dX11_check_6 rfl (lv_at hl 0 rfl) ?_
    refine lv_ifnullN (tgt := 17) hx hb dX11_check_7 (by decide) ?_
    refine lv_bipush (v := (-2)) hx hb dX11_check_17 (by decide) ?_
    exact zaI hQ hx hb hr hlk hP hS hI dX11_check_19
  · skip
    obtain ⟨ha_q_1, hk_q_1, hr_q_1⟩ := p_1 _ rfl
    refine lv_astore_n (lv' := [(3, .ref q_1), (0, .ref a0), (1, .int x1), (2, .int x2)]) hx hb dX11_check_5 rfl hl (by decide) rfl (fun ls hl => ?_)
    refine lv_aload_n hx hb dX11_check_6 rfl (lv_at hl 0 rfl) ?_
    refine lv_ifnull hx hb dX11_check_7 ?_
    refine lv_iload_n hx hb dX11_check_10 rfl (lv_at hl 3 rfl) ?_
    refine zcS (zrS (As := [.int x2]) (rest := []) C hs hP hS (c_X11_isSide l D K hO vi va vg hI x2) m_X11_isSide wm_X11_221 ⟨by decide, by decide⟩ hl.1 (Nat.le_of_ble_eq_true rfl) dX11_check_11) (fun x_2 p_2 => ?_)
    have pp_2 : (x_2.toInt ≠ 0 → 0 ≤ x2.toInt ∧ x2.toInt ≤ 1) := p_2.2
    refine bz_ne (tgt := 20) hx hb rfl dX11_check_14 (by decide) (fun c_3 => ?_) (fun c_3 => ?_)
    · skip
      refine lv_aload_n hx hb dX11_check_20 rfl (lv_at hl 0 rfl) ?_
      refine zcS (zrV (As := []) (b := q_1) (rest := []) C hs hP hS (c_X9_isEnd l D K hO vi va vg hI q_1 ha_q_1 hk_q_1) m_X9_isEnd wm_X11_237 (zrecv hs hP ha_q_1 (zF_8 hk_q_1) rfl) ⟨by decide, by decide⟩ hl.1 (Nat.le_of_ble_eq_true rfl) dX11_check_21) (fun x_4 p_4 => ?_)
      refine bz_ne (tgt := 30) hx hb rfl dX11_check_24 (by decide) (fun c_5 => ?_) (fun c_5 => ?_)
      · skip
        refine lv_aload_n hx hb dX11_check_30 rfl (lv_at hl 1 rfl) ?_
        refine zg_10_8 C hs hP ha0 hk0 wf_X11_53 dX11_check_31 ?_
        have hf_6 := hO.r (j := 8) ha0 hk0 (rfl : zX 10 8 = some (2, 0))
        refine lv_aload_n hx hb dX11_check_34 rfl (lv_at hl 0 rfl) ?_
        refine lv_iload_n hx hb dX11_check_35 rfl (lv_at hl 3 rfl) ?_
        refine zcV (zrV (As := [.ref q_1, .int x2]) (b := zr K a0 8) (rest := []) C hs hP hS (c_X2_begin l D K hO vi va vg hI (zr K a0 8) hf_6.1 hf_6.2.1 q_1 ha_q_1 hk_q_1 x2) m_X2_begin wm_X11_248 (zrecv hs hP hf_6.1 (zF_2 hf_6.2.1) rfl) ⟨by decide, by decide⟩ hl.1 (Nat.le_of_ble_eq_true rfl) dX11_check_36) hS (fun V_7 H locs p_7 hP hS => ?_)
        obtain ⟨vi_7, va_7, vg_7⟩ := V_7
        have hI := p_7
        try dsimp only at hI
        refine lv_aload_n hx hb dX11_check_39 rfl (lv_at hl 1 rfl) ?_
        refine zg_10_8 C hs hP ha0 hk0 wf_X11_53 dX11_check_40 ?_
        refine lv_aload_n hx hb dX11_check_43 rfl (lv_at hl 0 rfl) ?_
        refine zg_8_13 C hs hP ha_q_1 hk_q_1 wf_X11_135 dX11_check_44 ?_
        have hf_8 := hO.r (j := 13) ha_q_1 hk_q_1 (rfl : zX 8 13 = some (1, 0))
        refine zg_1_2 C hs hP hf_8.1 hf_8.2.1 wf_X11_139 dX11_check_47 ?_
        refine lv_iconst (v := 0) hx hb dX11_check_50 (by decide) ?_
        have g_9 := z_rng (vi_7 (zr K q_1 13) 2)
        have hq_10 : 0 ≤ (0 : Int32).toInt := by (try simp only [ti_0]); first | assumption | omega
        refine zcI (zrV (As := [.int (vi_7 (zr K q_1 13) 2), .int 0]) (b := zr K a0 8) (rest := []) C hs hP hS (c_X2_bestFrom l D K hO vi_7 va_7 vg_7 hI (zr K a0 8) hf_6.1 hf_6.2.1 (vi_7 (zr K q_1 13) 2) 0 hq_10) m_X2_bestFrom wm_X11_251 (zrecv hs hP hf_6.1 (zF_2 hf_6.2.1) rfl) ⟨by decide, by decide⟩ hl.1 (Nat.le_of_ble_eq_true rfl) dX11_check_51) hS (fun x_11 V_11 H locs p_11 hP hS => ?_)
        obtain ⟨vi_11, va_11, vg_11⟩ := V_11
        obtain ⟨hI, hg_11⟩ := p_11
        try dsimp only at hI hg_11
        replace hg_11 := hg_11.symm
        subst hg_11
        refine lv_istore (lv' := [(4, .int x_11), (3, .ref q_1), (0, .ref a0), (1, .int x1), (2, .int x2)]) hx hb dX11_check_54 hl (by decide) rfl (fun ls hl => ?_)
        refine lv_aload_n hx hb dX11_check_56 rfl (lv_at hl 2 rfl) ?_
        refine zg_10_8 C hs hP ha0 hk0 wf_X11_53 dX11_check_57 ?_
        refine lv_aload_n hx hb dX11_check_60 rfl (lv_at hl 1 rfl) ?_
        refine zg_8_13 C hs hP ha_q_1 hk_q_1 wf_X11_135 dX11_check_61 ?_
        refine zg_1_2 C hs hP hf_8.1 hf_8.2.1 wf_X11_139 dX11_check_64 ?_
        refine lv_iconst (v := 0) hx hb dX11_check_67 (by decide) ?_
        have g_12 := z_rng (vi_11 (zr K q_1 13) 2)
        have hq_13 : 0 ≤ (0 : Int32).toInt := by (try simp only [ti_0]); first | assumption | omega
        refine zcI (zrVN (As := [.int (vi_11 (zr K q_1 13) 2), .int 0]) (b := zr K a0 8) (rest := []) C hs hP hS (c_X2_sureFrom l D K hO vi_11 va_11 vg_7 hI (zr K a0 8) hf_6.1 hf_6.2.1 (vi_11 (zr K q_1 13) 2) 0 hq_13) m_X2_sureFrom (List.mem_of_getElem? (l := nw_M) (i := 8) rfl) (zrecv hs hP hf_6.1 (zF_2 hf_6.2.1) rfl) ⟨by decide, by decide⟩ hl.1 (Nat.le_of_ble_eq_true rfl) dX11_check_68) hS (fun x_14 V_14 H locs p_14 hP hS => ?_)
        obtain ⟨vi_14, va_14, vg_14⟩ := V_14
        obtain ⟨hI, hg_14⟩ := p_14
        try dsimp only at hI hg_14
        replace hg_14 := hg_14.symm
        subst hg_14
        refine lv_iload hx hb dX11_check_71 (lv_at hl 0 rfl) ?_
        refine bi_lt (tgt := 80) hx hb rfl rfl dX11_check_73 (by decide) (fun c_15 => ?_) (fun c_15 => ?_)
        · skip
          refine lv_iconst (v := 0) hx hb dX11_check_80 (by decide) ?_
          exact zaI hQ hx hb hr hlk hP hS hI dX11_check_81
        · skip
          refine lv_iconst (v := 1) hx hb dX11_check_76 (by decide) ?_
          refine lv_goto (tgt := 81) hx hb dX11_check_77 (by decide) ?_
          exact zaI hQ hx hb hr hlk hP hS hI dX11_check_81
      · skip
        refine lv_bipush (v := (-4)) hx hb dX11_check_27 (by decide) ?_
        exact zaI hQ hx hb hr hlk hP hS hI dX11_check_29
    · skip
      refine lv_bipush (v := (-2)) hx hb dX11_check_17 (by decide) ?_
      exact zaI hQ hx hb hr hlk hP hS hI dX11_check_19
set_option maxHeartbeats 4000000 in
set_option maxRecDepth 100000 in
theorem c_X11_bid (l : Launch) (D : va_G) (K : zK) (hO : zOk K) (vi va : Nat → Nat → Int32) (vg : Nat → Nat → Option Nat) (hI : zI K (vi, va, vg)) (a0 : Nat) (ha0 : a0 ∈ zl K) (hk0 : zk K a0 = 10) (x1 : Int32) (x2 : Int32) (x3 : Int32) (x4 : Int32) : Met l yX11_bid (zc yX11_bid cX11_bid 7 (some .int)) (rmd 6) (va_Pc [.ref a0, .int x1, .int x2, .int x3, .int x4] (zB D K (vi, va, vg))) (zQi D K (fun r V' => zI K V')) 0 0 (zA K) := by
  refine zin (by decide) (Nat.le_of_ble_eq_true rfl) ?_
  intro p e s m args below meth c ls Q hQ C hr hlk hP hs hl
  have C : CallFix p m c cX11_bid 7 s args zw RX11 := C
  obtain ⟨hx, hb, hml, hown, hts⟩ := id C
  have hS : va_S (zA K) s.heap s.heap [] := va_S.rf
  have hl : lv_has ls 7 [(0, .ref a0), (1, .int x1), (2, .int x2), (3, .int x3), (4, .int x4)] := hl
  refine lv_aload_n hx hb dX11_bid_0 rfl (lv_at hl 0 rfl) ?_
  refine lv_iload_n hx hb dX11_bid_1 rfl (lv_at hl 1 rfl) ?_
  refine zcSq (zrV (As := [.int x1]) (b := a0) (rest := []) C hs hP hS (c_X11_tableAt l D K hO vi va vg hI a0 ha0 hk0 x1) m_X11_tableAt wm_X11_83 (zrecv hs hP ha0 (zF_10 hk0) rfl) ⟨by decide, by decide⟩ hl.1 (Nat.le_of_ble_eq_true rfl) dX11_bid_2) (fun p_1 => ?_) (fun q_1 p_1 => ?_)
  · skip
    refine lv_astoreN (lv' := [(5, .null), (0, .ref a0), (1, .int x1), (2, .int x2), (3, .int x3), (4, .int x4)]) hx hb dX11_bid_5 hl (by decide) rfl (fun ls hl => ?_)
    refine lv_aloadN hx hb dX11_bid_7 (lv_at hl 0 rfl) ?_
    refine lv_ifnullN (tgt := 19) hx hb dX11_bid_9 (by decide) ?_
    refine lv_bipush (v := (-2)) hx hb dX11_bid_19 (by decide) ?_
    exact zaI hQ hx hb hr hlk hP hS hI dX11_bid_21
  · skip
    obtain ⟨ha_q_1, hk_q_1, hr_q_1⟩ := p_1 _ rfl
    refine lv_astore (lv' := [(5, .ref q_1), (0, .ref a0), (1, .int x1), (2, .int x2), (3, .int x3), (4, .int x4)]) hx hb dX11_bid_5 hl (by decide) rfl (fun ls hl => ?_)
    refine lv_aload hx hb dX11_bid_7 (lv_at hl 0 rfl) ?_
    refine lv_ifnull hx hb dX11_bid_9 ?_
    refine lv_iload_n hx hb dX11_bid_12 rfl (lv_at hl 3 rfl) ?_
    refine zcS (zrS (As := [.int x2]) (rest := []) C hs hP hS (c_X11_isSeat l D K hO vi va vg hI x2) m_X11_isSeat wm_X11_87 ⟨by decide, by decide⟩ hl.1 (Nat.le_of_ble_eq_true rfl) dX11_bid_13) (fun x_2 p_2 => ?_)
    have pp_2 : (x_2.toInt ≠ 0 → 0 ≤ x2.toInt ∧ x2.toInt ≤ 3) := p_2.2
    refine bz_ne (tgt := 22) hx hb rfl dX11_bid_16 (by decide) (fun c_3 => ?_) (fun c_3 => ?_)
    · skip
      refine lv_aload hx hb dX11_bid_22 (lv_at hl 0 rfl) ?_
      refine lv_aload_n hx hb dX11_bid_24 rfl (lv_at hl 1 rfl) ?_
      refine zg_10_7 C hs hP ha0 hk0 wf_X11_47 dX11_bid_25 ?_
      have hf_4 := hO.r (j := 7) ha0 hk0 (rfl : zX 10 7 = some (5, 0))
      refine lv_iload_n hx hb dX11_bid_28 rfl (lv_at hl 3 rfl) ?_
      refine lv_iload_n hx hb dX11_bid_29 rfl (lv_at hl 4 rfl) ?_
      refine lv_iload hx hb dX11_bid_30 (lv_at hl 5 rfl) ?_
      refine zcI (zrV (As := [.ref (zr K a0 7), .int x2, .int x3, .int x4]) (b := q_1) (rest := []) C hs hP hS (c_X9_refusalToBid l D K hO vi va vg hI q_1 ha_q_1 hk_q_1 (zr K a0 7) hf_4.1 hf_4.2.1 x2 x3 x4) m_X9_refusalToBid wm_X11_176 (zrecv hs hP ha_q_1 (zF_8 hk_q_1) rfl) ⟨by decide, by decide⟩ hl.1 (Nat.le_of_ble_eq_true rfl) dX11_bid_32) hS (fun x_5 V_5 H locs p_5 hP hS => ?_)
      obtain ⟨vi_5, va_5, vg_5⟩ := V_5
      obtain ⟨hI, hg_5⟩ := p_5
      try dsimp only at hI hg_5
      replace hg_5 := hg_5.symm
      subst hg_5
      refine lv_istore (lv' := [(6, .int x_5), (5, .ref q_1), (0, .ref a0), (1, .int x1), (2, .int x2), (3, .int x3), (4, .int x4)]) hx hb dX11_bid_35 hl (by decide) rfl (fun ls hl => ?_)
      refine lv_iload hx hb dX11_bid_37 (lv_at hl 0 rfl) ?_
      refine bz_eq (tgt := 45) hx hb rfl dX11_bid_39 (by decide) (fun c_6 => ?_) (fun c_6 => ?_)
      · skip
        refine lv_aload_n hx hb dX11_bid_45 rfl (lv_at hl 2 rfl) ?_
        refine lv_aload hx hb dX11_bid_46 (lv_at hl 1 rfl) ?_
        refine zcV (zrV (As := [.ref q_1]) (b := a0) (rest := []) C hs hP hS (c_X11_keep l D K hO vi_5 va_5 vg hI a0 ha0 hk0 q_1 ha_q_1 hk_q_1) m_X11_keep wm_X11_144 (zrecv hs hP ha0 (zF_10 hk0) rfl) ⟨by decide, by decide⟩ hl.1 (Nat.le_of_ble_eq_true rfl) dX11_bid_48) hS (fun V_7 H locs p_7 hP hS => ?_)
        obtain ⟨vi_7, va_7, vg_7⟩ := V_7
        have hI := p_7
        try dsimp only at hI
        refine lv_aload hx hb dX11_bid_51 (lv_at hl 1 rfl) ?_
        refine zg_8_13 C hs hP ha_q_1 hk_q_1 wf_X11_135 dX11_bid_53 ?_
        have hf_8 := hO.r (j := 13) ha_q_1 hk_q_1 (rfl : zX 8 13 = some (1, 0))
        refine zg_1_17 C hs hP hf_8.1 hf_8.2.1 wf_X11_160 dX11_bid_56 ?_
        have hf_9 := hO.r (j := 17) hf_8.1 hf_8.2.1 (rfl : zX 1 17 = some (7, 0))
        refine lv_iconst (v := 1) hx hb dX11_bid_59 (by decide) ?_
        refine lv_iload_n hx hb dX11_bid_60 rfl (lv_at hl 4 rfl) ?_
        refine lv_iload_n hx hb dX11_bid_61 rfl (lv_at hl 5 rfl) ?_
        refine lv_iload hx hb dX11_bid_62 (lv_at hl 6 rfl) ?_
        refine zcS (zrS (As := [.int 1, .int x2, .int x3, .int x4]) (rest := [.ref (zr K (zr K q_1 13) 17)]) C hs hP hS (c_X11_packed l D K hO vi_7 va_7 vg_7 hI 1 x2 x3 x4) m_X11_packed wm_X11_164 ⟨by decide, by decide⟩ hl.1 (Nat.le_of_ble_eq_true rfl) dX11_bid_64) (fun x_10 p_10 => ?_)
        refine zcV (zrV (As := [.int x_10]) (b := zr K (zr K q_1 13) 17) (rest := []) C hs hP hS (c_X8_add l D K hO vi_7 va_7 vg_7 hI (zr K (zr K q_1 13) 17) hf_9.1 hf_9.2.1 x_10) m_X8_add wm_X11_168 (zrecv hs hP hf_9.1 (zF_7 hf_9.2.1) rfl) ⟨by decide, by decide⟩ hl.1 (Nat.le_of_ble_eq_true rfl) dX11_bid_67) hS (fun V_11 H locs p_11 hP hS => ?_)
        obtain ⟨vi_11, va_11, vg_11⟩ := V_11
        obtain ⟨hI, hg_11⟩ := p_11
        try dsimp only at hI hg_11
        replace hg_11 := hg_11.symm
        subst hg_11
        refine lv_aload hx hb dX11_bid_70 (lv_at hl 1 rfl) ?_
        refine zg_8_13 C hs hP ha_q_1 hk_q_1 wf_X11_135 dX11_bid_72 ?_
        refine lv_iload_n hx hb dX11_bid_75 rfl (lv_at hl 5 rfl) ?_
        refine lv_iload hx hb dX11_bid_76 (lv_at hl 6 rfl) ?_
        refine lv_iload_n hx hb dX11_bid_78 rfl (lv_at hl 4 rfl) ?_
        refine zcV (zrV (As := [.int x3, .int x4, .int x2]) (b := zr K q_1 13) (rest := []) C hs hP hS (c_X1_setBid l D K hO vi_11 va_11 vg_7 hI (zr K q_1 13) hf_8.1 hf_8.2.1 x3 x4 x2) m_X1_setBid wm_X11_180 (zrecv hs hP hf_8.1 (zF_1 hf_8.2.1) rfl) ⟨by decide, by decide⟩ hl.1 (Nat.le_of_ble_eq_true rfl) dX11_bid_79) hS (fun V_12 H locs p_12 hP hS => ?_)
        obtain ⟨vi_12, va_12, vg_12⟩ := V_12
        obtain ⟨hI, hg_12⟩ := p_12
        try dsimp only at hI hg_12
        replace hg_12 := hg_12.symm
        subst hg_12
        refine lv_iconst (v := 1) hx hb dX11_bid_82 (by decide) ?_
        exact zaI hQ hx hb hr hlk hP hS hI dX11_bid_83
      · skip
        refine lv_iload hx hb dX11_bid_42 (lv_at hl 0 rfl) ?_
        exact zaI hQ hx hb hr hlk hP hS hI dX11_bid_44
    · skip
      refine lv_bipush (v := (-2)) hx hb dX11_bid_19 (by decide) ?_
      exact zaI hQ hx hb hr hlk hP hS hI dX11_bid_21
set_option maxHeartbeats 4000000 in
set_option maxRecDepth 100000 in
theorem c_X11_undo (l : Launch) (D : va_G) (K : zK) (hO : zOk K) (vi va : Nat → Nat → Int32) (vg : Nat → Nat → Option Nat) (hI : zI K (vi, va, vg)) (a0 : Nat) (ha0 : a0 ∈ zl K) (hk0 : zk K a0 = 10) (x1 : Int32) : Met l yX11_undo (zc yX11_undo cX11_undo 3 (some .int)) (rmd 5) (va_Pc [.ref a0, .int x1] (zB D K (vi, va, vg))) (zQi D K (fun r V' => zI K V')) 0 0 (zA K) := by
  refine zin (by decide) (Nat.le_of_ble_eq_true rfl) ?_
  intro p e s m args below meth c ls Q hQ C hr hlk hP hs hl
  have C : CallFix p m c cX11_undo 3 s args zw RX11 := C
  obtain ⟨hx, hb, hml, hown, hts⟩ := id C
  have hS : va_S (zA K) s.heap s.heap [] := va_S.rf
  have hl : lv_has ls 3 [(0, .ref a0), (1, .int x1)] := hl
  refine lv_aload_n hx hb dX11_undo_0 rfl (lv_at hl 0 rfl) ?_
  refine lv_iload_n hx hb dX11_undo_1 rfl (lv_at hl 1 rfl) ?_
  refine zcSq (zrV (As := [.int x1]) (b := a0) (rest := []) C hs hP hS (c_X11_tableAt l D K hO vi va vg hI a0 ha0 hk0 x1) m_X11_tableAt wm_X11_83 (zrecv hs hP ha0 (zF_10 hk0) rfl) ⟨by decide, by decide⟩ hl.1 (Nat.le_of_ble_eq_true rfl) dX11_undo_2) (fun p_1 => ?_) (fun q_1 p_1 => ?_)
  · skip
    refine lv_astore_nN (lv' := [(2, .null), (0, .ref a0), (1, .int x1)]) hx hb dX11_undo_5 rfl hl (by decide) rfl (fun ls hl => ?_)
    refine lv_aload_nN hx hb dX11_undo_6 rfl (lv_at hl 0 rfl) ?_
    refine lv_ifnonnullN hx hb dX11_undo_7 ?_
    refine lv_bipush (v := (-2)) hx hb dX11_undo_10 (by decide) ?_
    exact zaI hQ hx hb hr hlk hP hS hI dX11_undo_12
  · skip
    obtain ⟨ha_q_1, hk_q_1, hr_q_1⟩ := p_1 _ rfl
    refine lv_astore_n (lv' := [(2, .ref q_1), (0, .ref a0), (1, .int x1)]) hx hb dX11_undo_5 rfl hl (by decide) rfl (fun ls hl => ?_)
    refine lv_aload_n hx hb dX11_undo_6 rfl (lv_at hl 0 rfl) ?_
    refine lv_ifnonnull (tgt := 13) hx hb dX11_undo_7 (by decide) ?_
    refine lv_aload_n hx hb dX11_undo_13 rfl (lv_at hl 1 rfl) ?_
    refine zg_10_4 C hs hP ha0 hk0 wf_X11_31 dX11_undo_14 ?_
    have hf_2 := hO.r (j := 4) ha0 hk0 (rfl : zX 10 4 = some (20, 4))
    refine lv_iload_n hx hb dX11_undo_17 rfl (lv_at hl 2 rfl) ?_
    have g_4 := z_rng x1
    have hin_3 : vp_in x1 (zn K (zr K a0 4)) := vp_in_iff.mpr (by rw [(hf_2.2.2 (by decide))]; refine ⟨?_, ?_⟩ <;> omega)
    refine zld_20 C hs hP hf_2.1 hf_2.2.1 hin_3 dX11_undo_18 ?_
    refine bz_gt (tgt := 25) hx hb rfl dX11_undo_19 (by decide) (fun c_5 => ?_) (fun c_5 => ?_)
    · skip
      refine lv_aload_n hx hb dX11_undo_25 rfl (lv_at hl 1 rfl) ?_
      refine zg_10_4 C hs hP ha0 hk0 wf_X11_31 dX11_undo_26 ?_
      refine lv_iload_n hx hb dX11_undo_29 rfl (lv_at hl 2 rfl) ?_
      refine lv_dup2_11 hx hb dX11_undo_30 rfl rfl ?_
      have hin_6 : vp_in x1 (zn K (zr K a0 4)) := vp_in_iff.mpr (by rw [(hf_2.2.2 (by decide))]; refine ⟨?_, ?_⟩ <;> omega)
      refine zld_20 C hs hP hf_2.1 hf_2.2.1 hin_6 dX11_undo_31 ?_
      refine lv_iconst (v := 1) hx hb dX11_undo_32 (by decide) ?_
      refine lv_isub hx hb dX11_undo_33 ?_
      refine lv_topi (fun x_7 ex_7 => ?_)
      have hin_8 : vp_in x1 (zn K (zr K a0 4)) := vp_in_iff.mpr (by rw [(hf_2.2.2 (by decide))]; refine ⟨?_, ?_⟩ <;> omega)
      refine ks_20 C hO hs hP hS hf_2.1 hf_2.2.1 hI hin_8 dX11_undo_34 (fun va_9 H locs hI hP hS => ?_)
      refine lv_aload_n hx hb dX11_undo_35 rfl (lv_at hl 1 rfl) ?_
      refine zg_10_3 C hs hP ha0 hk0 wf_X11_27 dX11_undo_36 ?_
      have hf_10 := hO.r (j := 3) ha0 hk0 (rfl : zX 10 3 = some (25, 4))
      refine lv_iload_n hx hb dX11_undo_39 rfl (lv_at hl 2 rfl) ?_
      refine lv_aload_n hx hb dX11_undo_40 rfl (lv_at hl 1 rfl) ?_
      refine zg_10_3 C hs hP ha0 hk0 wf_X11_27 dX11_undo_41 ?_
      refine lv_iload_n hx hb dX11_undo_44 rfl (lv_at hl 2 rfl) ?_
      have hin_11 : vp_in x1 (zn K (zr K a0 3)) := vp_in_iff.mpr (by rw [(hf_10.2.2 (by decide))]; refine ⟨?_, ?_⟩ <;> omega)
      refine zld_25 C hs hP hf_10.1 hf_10.2.1 hin_11 dX11_undo_45 ?_
      have hv_12 : 0 ≤ (va_9 (zr K a0 3) x1.toNatClampNeg).toInt ∧ (va_9 (zr K a0 3) x1.toNatClampNeg).toInt ≤ 7 := hI.2.2.1 _ hf_10.1 hf_10.2.1 _ (Nat.not_le.mp fun q => hin_11 (Or.inr q))
      refine lv_bipush (v := 8) hx hb dX11_undo_46 (by decide) ?_
      refine lv_iadd hx hb dX11_undo_48 ?_
      refine lv_topi (fun x_13 ex_13 => ?_)
      refine lv_iconst (v := 1) hx hb dX11_undo_49 (by decide) ?_
      refine lv_isub hx hb dX11_undo_50 ?_
      refine lv_topi (fun x_14 ex_14 => ?_)
      refine lv_bipush (v := 7) hx hb dX11_undo_51 (by decide) ?_
      refine lv_iand hx hb dX11_undo_53 ?_
      refine lv_topi (fun x_15 ex_15 => ?_)
      have hin_16 : vp_in x1 (zn K (zr K a0 3)) := vp_in_iff.mpr (by rw [(hf_10.2.2 (by decide))]; refine ⟨?_, ?_⟩ <;> omega)
      have f_15 := z_and ex_15 ti_7 (by decide)
      refine ks_25 C hO hs hP hS hf_10.1 hf_10.2.1 hI hin_16 (by omega) dX11_undo_54 (fun va_17 H locs hI hP hS => ?_)
      refine lv_aload_n hx hb dX11_undo_55 rfl (lv_at hl 0 rfl) ?_
      refine lv_aload_n hx hb dX11_undo_56 rfl (lv_at hl 1 rfl) ?_
      refine zg_10_2 C hs hP ha0 hk0 wf_X11_21 dX11_undo_57 ?_
      have hf_18 := hO.r (j := 2) ha0 hk0 (rfl : zX 10 2 = some (24, 32))
      refine lv_iload_n hx hb dX11_undo_60 rfl (lv_at hl 2 rfl) ?_
      refine lv_bipush (v := 8) hx hb dX11_undo_61 (by decide) ?_
      refine lv_imul hx hb dX11_undo_63 ?_
      refine lv_topi (fun x_19 ex_19 => ?_)
      refine lv_aload_n hx hb dX11_undo_64 rfl (lv_at hl 1 rfl) ?_
      refine zg_10_3 C hs hP ha0 hk0 wf_X11_27 dX11_undo_65 ?_
      refine lv_iload_n hx hb dX11_undo_68 rfl (lv_at hl 2 rfl) ?_
      have hin_20 : vp_in x1 (zn K (zr K a0 3)) := vp_in_iff.mpr (by rw [(hf_10.2.2 (by decide))]; refine ⟨?_, ?_⟩ <;> omega)
      refine zld_25 C hs hP hf_10.1 hf_10.2.1 hin_20 dX11_undo_69 ?_
      have hv_21 : 0 ≤ (va_17 (zr K a0 3) x1.toNatClampNeg).toInt ∧ (va_17 (zr K a0 3) x1.toNatClampNeg).toInt ≤ 7 := hI.2.2.1 _ hf_10.1 hf_10.2.1 _ (Nat.not_le.mp fun q => hin_20 (Or.inr q))
      refine lv_iadd hx hb dX11_undo_70 ?_
      refine lv_topi (fun x_22 ex_22 => ?_)
      obtain ⟨f_19, l_19, u_19⟩ := z_mul ex_19 rfl ti_8
      have g_24 := z_rng (va_17 (zr K a0 3) x1.toNatClampNeg)
      obtain ⟨f_22, l_22, u_22⟩ := z_add ex_22 rfl rfl
      have hin_23 : vp_in x_22 (zn K (zr K a0 2)) := vp_in_iff.mpr (by rw [(hf_18.2.2 (by decide))]; refine ⟨?_, ?_⟩ <;> omega)
      refine zld_24 C hs hP hf_18.1 hf_18.2.1 hin_23 dX11_undo_71 ?_
      have hf_25 := zel_24 hO hf_18.1 hf_18.2.1 hin_23
      refine zcV (zrV (As := [.ref (zr K (zr K a0 2) x_22.toNatClampNeg)]) (b := q_1) (rest := []) C hs hP hS (c_X9_setTo l D K hO vi va_17 vg hI q_1 ha_q_1 hk_q_1 (zr K (zr K a0 2) x_22.toNatClampNeg) hf_25.1 hf_25.2) m_X9_setTo wm_X11_261 (zrecv hs hP ha_q_1 (zF_8 hk_q_1) rfl) ⟨by decide, by decide⟩ hl.1 (Nat.le_of_ble_eq_true rfl) dX11_undo_72) hS (fun V_26 H locs p_26 hP hS => ?_)
      obtain ⟨vi_26, va_26, vg_26⟩ := V_26
      have hI := p_26
      try dsimp only at hI
      refine lv_aload_n hx hb dX11_undo_75 rfl (lv_at hl 1 rfl) ?_
      refine zg_10_4 C hs hP ha0 hk0 wf_X11_31 dX11_undo_76 ?_
      refine lv_iload_n hx hb dX11_undo_79 rfl (lv_at hl 2 rfl) ?_
      have hin_27 : vp_in x1 (zn K (zr K a0 4)) := vp_in_iff.mpr (by rw [(hf_2.2.2 (by decide))]; refine ⟨?_, ?_⟩ <;> omega)
      refine zld_20 C hs hP hf_2.1 hf_2.2.1 hin_27 dX11_undo_80 ?_
      exact zaI hQ hx hb hr hlk hP hS hI dX11_undo_81
    · skip
      refine lv_bipush (v := (-4)) hx hb dX11_undo_22 (by decide) ?_
      exact zaI hQ hx hb hr hlk hP hS hI dX11_undo_24
set_option maxHeartbeats 4000000 in
set_option maxRecDepth 100000 in
theorem c_X11_replay (l : Launch) (D : va_G) (K : zK) (hO : zOk K) (vi va : Nat → Nat → Int32) (vg : Nat → Nat → Option Nat) (hI : zI K (vi, va, vg)) (a0 : Nat) (ha0 : a0 ∈ zl K) (hk0 : zk K a0 = 10) (x1 : Int32) : Met l yX11_replay (zc yX11_replay cX11_replay 10 (some .int)) (rmd 23) (va_Pc [.ref a0, .int x1] (zB D K (vi, va, vg))) (zQi D K (fun r V' => zI K V')) 0 0 (zA K) := by
  refine zin (by decide) (Nat.le_of_ble_eq_true rfl) ?_
  intro p e s m args below meth c ls Q hQ C hr hlk hP hs hl
  have C : CallFix p m c cX11_replay 10 s args zw RX11 := C
  obtain ⟨hx, hb, hml, hown, hts⟩ := id C
  have hS : va_S (zA K) s.heap s.heap [] := va_S.rf
  have hl : lv_has ls 10 [(0, .ref a0), (1, .int x1)] := hl
  refine lv_aload_n hx hb dX11_replay_0 rfl (lv_at hl 0 rfl) ?_
  refine lv_iload_n hx hb dX11_replay_1 rfl (lv_at hl 1 rfl) ?_
  refine zcSq (zrV (As := [.int x1]) (b := a0) (rest := []) C hs hP hS (c_X11_tableAt l D K hO vi va vg hI a0 ha0 hk0 x1) m_X11_tableAt wm_X11_83 (zrecv hs hP ha0 (zF_10 hk0) rfl) ⟨by decide, by decide⟩ hl.1 (Nat.le_of_ble_eq_true rfl) dX11_replay_2) (fun p_1 => ?_) (fun q_1 p_1 => ?_)
  · skip
    refine lv_astore_nN (lv' := [(2, .null), (0, .ref a0), (1, .int x1)]) hx hb dX11_replay_5 rfl hl (by decide) rfl (fun ls hl => ?_)
    refine lv_aload_nN hx hb dX11_replay_6 rfl (lv_at hl 0 rfl) ?_
    refine lv_ifnonnullN hx hb dX11_replay_7 ?_
    refine lv_bipush (v := (-2)) hx hb dX11_replay_10 (by decide) ?_
    exact zaI hQ hx hb hr hlk hP hS hI dX11_replay_12
  · skip
    obtain ⟨ha_q_1, hk_q_1, hr_q_1⟩ := p_1 _ rfl
    refine lv_astore_n (lv' := [(2, .ref q_1), (0, .ref a0), (1, .int x1)]) hx hb dX11_replay_5 rfl hl (by decide) rfl (fun ls hl => ?_)
    refine lv_aload_n hx hb dX11_replay_6 rfl (lv_at hl 0 rfl) ?_
    refine lv_ifnonnull (tgt := 13) hx hb dX11_replay_7 (by decide) ?_
    refine lv_aload_n hx hb dX11_replay_13 rfl (lv_at hl 0 rfl) ?_
    refine zg_8_13 C hs hP ha_q_1 hk_q_1 wf_X11_135 dX11_replay_14 ?_
    have hf_2 := hO.r (j := 13) ha_q_1 hk_q_1 (rfl : zX 8 13 = some (1, 0))
    refine lv_astore_n (lv' := [(3, .ref (zr K q_1 13)), (2, .ref q_1), (0, .ref a0), (1, .int x1)]) hx hb dX11_replay_17 rfl hl (by decide) rfl (fun ls hl => ?_)
    refine lv_aload_n hx hb dX11_replay_18 rfl (lv_at hl 0 rfl) ?_
    refine zg_1_0 C hs hP hf_2.1 hf_2.2.1 wf_X11_264 dX11_replay_19 ?_
    refine bz_ne (tgt := 28) hx hb rfl dX11_replay_22 (by decide) (fun c_3 => ?_) (fun c_3 => ?_)
    · skip
      refine lv_aload_n hx hb dX11_replay_28 rfl (lv_at hl 0 rfl) ?_
      refine zg_1_17 C hs hP hf_2.1 hf_2.2.1 wf_X11_160 dX11_replay_29 ?_
      have hf_4 := hO.r (j := 17) hf_2.1 hf_2.2.1 (rfl : zX 1 17 = some (7, 0))
      refine zg_7_1 C hs hP hf_4.1 hf_4.2.1 wf_X11_212 dX11_replay_32 ?_
      refine lv_bipush (v := 100) hx hb dX11_replay_35 (by decide) ?_
      refine bi_le (tgt := 42) hx hb rfl ti_100 dX11_replay_37 (by decide) (fun c_5 => ?_) (fun c_5 => ?_)
      · skip
        refine lv_aload_n hx hb dX11_replay_42 rfl (lv_at hl 2 rfl) ?_
        refine zg_10_5 C hs hP ha0 hk0 wf_X11_34 dX11_replay_43 ?_
        have hf_6 := hO.r (j := 5) ha0 hk0 (rfl : zX 10 5 = some (8, 0))
        refine lv_aload_n hx hb dX11_replay_46 rfl (lv_at hl 1 rfl) ?_
        refine zcV (zrV (As := [.ref q_1]) (b := zr K a0 5) (rest := []) C hs hP hS (c_X9_setTo l D K hO vi va vg hI (zr K a0 5) hf_6.1 hf_6.2.1 q_1 ha_q_1 hk_q_1) m_X9_setTo wm_X11_261 (zrecv hs hP hf_6.1 (zF_8 hf_6.2.1) rfl) ⟨by decide, by decide⟩ hl.1 (Nat.le_of_ble_eq_true rfl) dX11_replay_47) hS (fun V_7 H locs p_7 hP hS => ?_)
        obtain ⟨vi_7, va_7, vg_7⟩ := V_7
        have hI := p_7
        try dsimp only at hI
        refine lv_aload_n hx hb dX11_replay_50 rfl (lv_at hl 2 rfl) ?_
        refine zg_10_5 C hs hP ha0 hk0 wf_X11_34 dX11_replay_51 ?_
        refine lv_aload_n hx hb dX11_replay_54 rfl (lv_at hl 0 rfl) ?_
        refine zg_1_9 C hs hP hf_2.1 hf_2.2.1 wf_X11_267 dX11_replay_55 ?_
        refine lv_aload_n hx hb dX11_replay_58 rfl (lv_at hl 0 rfl) ?_
        refine zg_1_10 C hs hP hf_2.1 hf_2.2.1 wf_X11_270 dX11_replay_59 ?_
        refine zcV (zrV (As := [.int (vi_7 (zr K q_1 13) 9), .int (vi_7 (zr K q_1 13) 10)]) (b := zr K a0 5) (rest := []) C hs hP hS (c_X9_begin l D K hO vi_7 va_7 vg_7 hI (zr K a0 5) hf_6.1 hf_6.2.1 (vi_7 (zr K q_1 13) 9) (vi_7 (zr K q_1 13) 10)) m_X9_begin wm_X11_151 (zrecv hs hP hf_6.1 (zF_8 hf_6.2.1) rfl) ⟨by decide, by decide⟩ hl.1 (Nat.le_of_ble_eq_true rfl) dX11_replay_62) hS (fun V_8 H locs p_8 hP hS => ?_)
        obtain ⟨vi_8, va_8, vg_8⟩ := V_8
        obtain ⟨hI, hg_8⟩ := p_8
        try dsimp only at hI hg_8
        replace hg_8 := hg_8.symm
        subst hg_8
        refine lv_aload_n hx hb dX11_replay_65 rfl (lv_at hl 0 rfl) ?_
        refine zg_1_17 C hs hP hf_2.1 hf_2.2.1 wf_X11_160 dX11_replay_66 ?_
        refine zg_7_1 C hs hP hf_4.1 hf_4.2.1 wf_X11_212 dX11_replay_69 ?_
        refine lv_istore (lv' := [(4, .int (vi_8 (zr K (zr K q_1 13) 17) 1)), (3, .ref (zr K q_1 13)), (2, .ref q_1), (0, .ref a0), (1, .int x1)]) hx hb dX11_replay_72 hl (by decide) rfl (fun ls hl => ?_)
        refine lv_iconst (v := 0) hx hb dX11_replay_74 (by decide) ?_
        refine lv_istore (lv' := [(5, .int 0), (4, .int (vi_8 (zr K (zr K q_1 13) 17) 1)), (3, .ref (zr K q_1 13)), (2, .ref q_1), (0, .ref a0), (1, .int x1)]) hx hb dX11_replay_75 hl (by decide) rfl (fun ls hl => ?_)
        have L_77_10 : ∀ (n_10 : Nat) (vi_11 : Nat → Nat → Int32) (va_11 : Nat → Nat → Int32) (vg_11 : Nat → Nat → Option Nat) (H : Heap) (locs : List Loc) (y_9 : Int32) (ls : Array Slot), (2147483648 - y_9.toInt).toNat < n_10 → 0 ≤ y_9.toInt → zI K (vi_11, va_11, vg_11) → va_P D vwCl (zW K (vi_11, va_11, vg_11)) H → va_S (zA K) s.heap H locs → lv_has ls 10 [(5, .int y_9), (4, .int (vi_8 (zr K (zr K q_1 13) 17) 1)), (3, .ref (zr K q_1 13)), (2, .ref q_1), (0, .ref a0), (1, .int x1)] → W p l e (rmd 23) s m args below meth c H locs 0 0 Q (F0 m 77 ls []) := by
          intro n_10
          induction n_10 with
          | zero => intro vi_11 va_11 vg_11 H locs y_9 ls hm_10; exact absurd hm_10 (Nat.not_lt_zero _)
          | succ n_10 ih_10 =>
            intro vi_11 va_11 vg_11 H locs y_9 ls hm_10 iv_11_0 hI hP hS hl
            refine lv_iload hx hb dX11_replay_77 (lv_at hl 0 rfl) ?_
            refine lv_iload hx hb dX11_replay_79 (lv_at hl 1 rfl) ?_
            refine bi_ge (tgt := 243) hx hb rfl rfl dX11_replay_81 (by decide) (fun c_13 => ?_) (fun c_13 => ?_)
            · skip
              refine lv_aload_n hx hb dX11_replay_243 rfl (lv_at hl 4 rfl) ?_
              refine zg_10_5 C hs hP ha0 hk0 wf_X11_34 dX11_replay_244 ?_
              refine lv_aload_n hx hb dX11_replay_247 rfl (lv_at hl 3 rfl) ?_
              refine zcS (zrV (As := [.ref q_1]) (b := zr K a0 5) (rest := []) C hs hP hS (c_X9_isLike l D K hO vi_11 va_11 vg_11 hI (zr K a0 5) hf_6.1 hf_6.2.1 q_1 ha_q_1 hk_q_1) m_X9_isLike wm_X11_277 (zrecv hs hP hf_6.1 (zF_8 hf_6.2.1) rfl) ⟨by decide, by decide⟩ hl.1 (Nat.le_of_ble_eq_true rfl) dX11_replay_248) (fun x_85 p_85 => ?_)
              refine bz_eq (tgt := 258) hx hb rfl dX11_replay_251 (by decide) (fun c_86 => ?_) (fun c_86 => ?_)
              · skip
                refine lv_iconst (v := 0) hx hb dX11_replay_258 (by decide) ?_
                exact zaI hQ hx hb hr hlk hP hS hI dX11_replay_259
              · skip
                refine lv_iconst (v := 1) hx hb dX11_replay_254 (by decide) ?_
                refine lv_goto (tgt := 259) hx hb dX11_replay_255 (by decide) ?_
                exact zaI hQ hx hb hr hlk hP hS hI dX11_replay_259
            · skip
              refine lv_aload_n hx hb dX11_replay_84 rfl (lv_at hl 2 rfl) ?_
              refine zg_1_17 C hs hP hf_2.1 hf_2.2.1 wf_X11_160 dX11_replay_85 ?_
              refine lv_iload hx hb dX11_replay_88 (lv_at hl 0 rfl) ?_
              refine zcS (zrV (As := [.int y_9]) (b := zr K (zr K q_1 13) 17) (rest := []) C hs hP hS (c_X8_at l D K hO vi_11 va_11 vg_11 hI (zr K (zr K q_1 13) 17) hf_4.1 hf_4.2.1 y_9) m_X8_at wm_X11_204 (zrecv hs hP hf_4.1 (zF_7 hf_4.2.1) rfl) ⟨by decide, by decide⟩ hl.1 (Nat.le_of_ble_eq_true rfl) dX11_replay_90) (fun x_87 p_87 => ?_)
              refine lv_istore (lv' := [(6, .int x_87), (5, .int y_9), (4, .int (vi_8 (zr K (zr K q_1 13) 17) 1)), (3, .ref (zr K q_1 13)), (2, .ref q_1), (0, .ref a0), (1, .int x1)]) hx hb dX11_replay_93 hl (by decide) rfl (fun ls hl => ?_)
              refine lv_iload hx hb dX11_replay_95 (lv_at hl 0 rfl) ?_
              refine lv_bipush (v := 10) hx hb dX11_replay_97 (by decide) ?_
              refine lv_ishr hx hb dX11_replay_99 ?_
              refine lv_topi (fun x_88 ex_88 => ?_)
              refine lv_bipush (v := 7) hx hb dX11_replay_100 (by decide) ?_
              refine lv_iand hx hb dX11_replay_102 ?_
              refine lv_topi (fun x_89 ex_89 => ?_)
              refine lv_istore (lv' := [(7, .int x_89), (6, .int x_87), (5, .int y_9), (4, .int (vi_8 (zr K (zr K q_1 13) 17) 1)), (3, .ref (zr K q_1 13)), (2, .ref q_1), (0, .ref a0), (1, .int x1)]) hx hb dX11_replay_103 hl (by decide) rfl (fun ls hl => ?_)
              refine lv_iload hx hb dX11_replay_105 (lv_at hl 1 rfl) ?_
              refine lv_bipush (v := 8) hx hb dX11_replay_107 (by decide) ?_
              refine lv_ishr hx hb dX11_replay_109 ?_
              refine lv_topi (fun x_90 ex_90 => ?_)
              refine lv_iconst (v := 3) hx hb dX11_replay_110 (by decide) ?_
              refine lv_iand hx hb dX11_replay_111 ?_
              refine lv_topi (fun x_91 ex_91 => ?_)
              refine lv_istore (lv' := [(8, .int x_91), (7, .int x_89), (6, .int x_87), (5, .int y_9), (4, .int (vi_8 (zr K (zr K q_1 13) 17) 1)), (3, .ref (zr K q_1 13)), (2, .ref q_1), (0, .ref a0), (1, .int x1)]) hx hb dX11_replay_112 hl (by decide) rfl (fun ls hl => ?_)
              refine lv_iload hx hb dX11_replay_114 (lv_at hl 2 rfl) ?_
              refine lv_iconst (v := 2) hx hb dX11_replay_116 (by decide) ?_
              refine lv_ishr hx hb dX11_replay_117 ?_
              refine lv_topi (fun x_92 ex_92 => ?_)
              refine lv_bipush (v := 63) hx hb dX11_replay_118 (by decide) ?_
              refine lv_iand hx hb dX11_replay_120 ?_
              refine lv_topi (fun x_93 ex_93 => ?_)
              refine lv_istore (lv' := [(9, .int x_93), (8, .int x_91), (7, .int x_89), (6, .int x_87), (5, .int y_9), (4, .int (vi_8 (zr K (zr K q_1 13) 17) 1)), (3, .ref (zr K q_1 13)), (2, .ref q_1), (0, .ref a0), (1, .int x1)]) hx hb dX11_replay_121 hl (by decide) rfl (fun ls hl => ?_)
              refine lv_iload hx hb dX11_replay_123 (lv_at hl 2 rfl) ?_
              refine lv_iconst (v := 3) hx hb dX11_replay_125 (by decide) ?_
              have J_237_124 : ∀ (vi_125 : Nat → Nat → Int32) (va_125 : Nat → Nat → Int32) (vg_125 : Nat → Nat → Option Nat) (H : Heap) (locs : List Loc) (ls : Array Slot), zI K (vi_125, va_125, vg_125) → va_P D vwCl (zW K (vi_125, va_125, vg_125)) H → va_S (zA K) s.heap H locs → lv_has ls 10 [(0, .ref a0), (1, .int x1), (2, .ref q_1), (3, .ref (zr K q_1 13)), (4, .int (vi_8 (zr K (zr K q_1 13) 17) 1)), (5, .int y_9), (6, .int x_87), (7, .int x_89), (8, .int x_91), (9, .int x_93)] → W p l e (rmd 23) s m args below meth c H locs 0 0 Q (F0 m 237 ls []) := by
                intro vi_125 va_125 vg_125 H locs ls hI hP hS hl
                obtain ⟨x_127, ex_127⟩ : ∃ y : Int32, y = y_9 + 1 := ⟨_, rfl⟩
                refine lv_iinc (v := x_127) (lv' := [(5, .int x_127), (0, .ref a0), (1, .int x1), (2, .ref q_1), (3, .ref (zr K q_1 13)), (4, .int (vi_8 (zr K (zr K q_1 13) 17) 1)), (6, .int x_87), (7, .int x_89), (8, .int x_91), (9, .int x_93)]) hx hb dX11_replay_237 hl (k := 5) rfl (by rw [ex_127]; rfl) (by decide) rfl (fun ls hl => ?_)
                refine lv_goto (tgt := 77) hx hb dX11_replay_240 (by decide) ?_
                have g_128 := z_rng y_9
                obtain ⟨f_127, l_127, u_127⟩ := z_add ex_127 rfl ti_1
                have g_129 := z_rng (vi_8 (zr K (zr K q_1 13) 17) 1)
                exact ih_10 vi_125 va_125 vg_125 _ _ x_127 _ (by omega) (by omega) hI hP hS (lv_sub hl [0, 5, 4, 3, 1, 2] rfl)
              refine bi_ge (tgt := 146) hx hb rfl ti_3 dX11_replay_126 (by decide) (fun c_94 => ?_) (fun c_94 => ?_)
              · skip
                refine lv_iload hx hb dX11_replay_146 (lv_at hl 2 rfl) ?_
                refine lv_iconst (v := 5) hx hb dX11_replay_148 (by decide) ?_
                refine bi_ge (tgt := 184) hx hb rfl ti_5 dX11_replay_149 (by decide) (fun c_130 => ?_) (fun c_130 => ?_)
                · skip
                  refine lv_iload hx hb dX11_replay_184 (lv_at hl 2 rfl) ?_
                  refine lv_iconst (v := 5) hx hb dX11_replay_186 (by decide) ?_
                  refine bi_ne (tgt := 237) hx hb rfl ti_5 dX11_replay_187 (by decide) (fun c_131 => ?_) (fun c_131 => ?_)
                  · skip
                    exact J_237_124 vi_11 va_11 vg_11 _ _ _ hI hP hS (lv_sub hl [8, 9, 7, 6, 5, 4, 3, 2, 1, 0] rfl)
                  · skip
                    refine lv_aload_n hx hb dX11_replay_190 rfl (lv_at hl 8 rfl) ?_
                    refine zg_10_5 C hs hP ha0 hk0 wf_X11_34 dX11_replay_191 ?_
                    refine zcS (zrV (As := []) (b := zr K a0 5) (rest := []) C hs hP hS (c_X9_isEnd l D K hO vi_11 va_11 vg_11 hI (zr K a0 5) hf_6.1 hf_6.2.1) m_X9_isEnd wm_X11_237 (zrecv hs hP hf_6.1 (zF_8 hf_6.2.1) rfl) ⟨by decide, by decide⟩ hl.1 (Nat.le_of_ble_eq_true rfl) dX11_replay_194) (fun x_132 p_132 => ?_)
                    refine bz_eq (tgt := 237) hx hb rfl dX11_replay_197 (by decide) (fun c_133 => ?_) (fun c_133 => ?_)
                    · skip
                      exact J_237_124 vi_11 va_11 vg_11 _ _ _ hI hP hS (lv_sub hl [8, 9, 7, 6, 5, 4, 3, 2, 1, 0] rfl)
                    · skip
                      refine lv_aload_n hx hb dX11_replay_200 rfl (lv_at hl 8 rfl) ?_
                      refine zg_10_8 C hs hP ha0 hk0 wf_X11_53 dX11_replay_201 ?_
                      have hf_134 := hO.r (j := 8) ha0 hk0 (rfl : zX 10 8 = some (2, 0))
                      refine lv_aload_n hx hb dX11_replay_204 rfl (lv_at hl 8 rfl) ?_
                      refine zg_10_5 C hs hP ha0 hk0 wf_X11_34 dX11_replay_205 ?_
                      refine lv_iload hx hb dX11_replay_208 (lv_at hl 1 rfl) ?_
                      refine lv_iconst (v := 1) hx hb dX11_replay_210 (by decide) ?_
                      refine lv_iand hx hb dX11_replay_211 ?_
                      refine lv_topi (fun x_135 ex_135 => ?_)
                      refine zcI (zrV (As := [.ref (zr K a0 5), .int x_135]) (b := zr K a0 8) (rest := []) C hs hP hS (c_X2_bestOf l D K hO vi_11 va_11 vg_11 hI (zr K a0 8) hf_134.1 hf_134.2.1 (zr K a0 5) hf_6.1 hf_6.2.1 x_135) m_X2_bestOf wm_X11_240 (zrecv hs hP hf_134.1 (zF_2 hf_134.2.1) rfl) ⟨by decide, by decide⟩ hl.1 (Nat.le_of_ble_eq_true rfl) dX11_replay_212) hS (fun x_136 V_136 H locs p_136 hP hS => ?_)
                      obtain ⟨vi_136, va_136, vg_136⟩ := V_136
                      have hI := p_136
                      try dsimp only at hI
                      refine lv_iload hx hb dX11_replay_215 (lv_at hl 0 rfl) ?_
                      refine bi_lt (tgt := 237) hx hb rfl rfl dX11_replay_217 (by decide) (fun c_137 => ?_) (fun c_137 => ?_)
                      · skip
                        exact J_237_124 vi_136 va_136 vg_136 _ _ _ hI hP hS (lv_sub hl [8, 9, 7, 6, 5, 4, 3, 2, 1, 0] rfl)
                      · skip
                        refine lv_aload_n hx hb dX11_replay_220 rfl (lv_at hl 8 rfl) ?_
                        refine zg_10_5 C hs hP ha0 hk0 wf_X11_34 dX11_replay_221 ?_
                        refine lv_aload_n hx hb dX11_replay_224 rfl (lv_at hl 8 rfl) ?_
                        refine zg_10_7 C hs hP ha0 hk0 wf_X11_47 dX11_replay_225 ?_
                        have hf_138 := hO.r (j := 7) ha0 hk0 (rfl : zX 10 7 = some (5, 0))
                        refine lv_iload hx hb dX11_replay_228 (lv_at hl 1 rfl) ?_
                        refine lv_iconst (v := 1) hx hb dX11_replay_230 (by decide) ?_
                        refine lv_iand hx hb dX11_replay_231 ?_
                        refine lv_topi (fun x_139 ex_139 => ?_)
                        refine lv_iload hx hb dX11_replay_232 (lv_at hl 0 rfl) ?_
                        have f_139 := z_and ex_139 ti_1 (by decide)
                        have f_93 := z_and ex_93 ti_63 (by decide)
                        have hq_140 : 0 ≤ x_139.toInt ∧ x_139.toInt ≤ 1 := by first | assumption | omega
                        refine zcV (zrV (As := [.ref (zr K a0 7), .int x_139, .int x_93]) (b := zr K a0 5) (rest := []) C hs hP hS (c_X9_claimBy l D K hO vi_136 va_136 vg_136 hI (zr K a0 5) hf_6.1 hf_6.2.1 (zr K a0 7) hf_138.1 hf_138.2.1 x_139 x_93 hq_140) m_X9_claimBy wm_X11_257 (zrecv hs hP hf_6.1 (zF_8 hf_6.2.1) rfl) ⟨by decide, by decide⟩ hl.1 (Nat.le_of_ble_eq_true rfl) dX11_replay_234) hS (fun V_141 H locs p_141 hP hS => ?_)
                        obtain ⟨vi_141, va_141, vg_141⟩ := V_141
                        obtain ⟨hI, hg_141⟩ := p_141
                        try dsimp only at hI hg_141
                        replace hg_141 := hg_141.symm
                        subst hg_141
                        exact J_237_124 vi_141 va_141 vg_136 _ _ _ hI hP hS (lv_sub hl [8, 9, 7, 6, 5, 4, 3, 2, 1, 0] rfl)
                · skip
                  refine lv_aload_n hx hb dX11_replay_152 rfl (lv_at hl 8 rfl) ?_
                  refine zg_10_5 C hs hP ha0 hk0 wf_X11_34 dX11_replay_153 ?_
                  refine zcS (zrV (As := []) (b := zr K a0 5) (rest := []) C hs hP hS (c_X9_isOn l D K hO vi_11 va_11 vg_11 hI (zr K a0 5) hf_6.1 hf_6.2.1) m_X9_isOn wm_X11_90 (zrecv hs hP hf_6.1 (zF_8 hf_6.2.1) rfl) ⟨by decide, by decide⟩ hl.1 (Nat.le_of_ble_eq_true rfl) dX11_replay_156) (fun x_142 p_142 => ?_)
                  refine bz_eq (tgt := 184) hx hb rfl dX11_replay_159 (by decide) (fun c_143 => ?_) (fun c_143 => ?_)
                  · skip
                    refine lv_iload hx hb dX11_replay_184 (lv_at hl 2 rfl) ?_
                    refine lv_iconst (v := 5) hx hb dX11_replay_186 (by decide) ?_
                    refine bi_ne (tgt := 237) hx hb rfl ti_5 dX11_replay_187 (by decide) (fun c_144 => ?_) (fun c_144 => ?_)
                    · skip
                      exact J_237_124 vi_11 va_11 vg_11 _ _ _ hI hP hS (lv_sub hl [8, 9, 7, 6, 5, 4, 3, 2, 1, 0] rfl)
                    · skip
                      refine lv_aload_n hx hb dX11_replay_190 rfl (lv_at hl 8 rfl) ?_
                      refine zg_10_5 C hs hP ha0 hk0 wf_X11_34 dX11_replay_191 ?_
                      refine zcS (zrV (As := []) (b := zr K a0 5) (rest := []) C hs hP hS (c_X9_isEnd l D K hO vi_11 va_11 vg_11 hI (zr K a0 5) hf_6.1 hf_6.2.1) m_X9_isEnd wm_X11_237 (zrecv hs hP hf_6.1 (zF_8 hf_6.2.1) rfl) ⟨by decide, by decide⟩ hl.1 (Nat.le_of_ble_eq_true rfl) dX11_replay_194) (fun x_145 p_145 => ?_)
                      refine bz_eq (tgt := 237) hx hb rfl dX11_replay_197 (by decide) (fun c_146 => ?_) (fun c_146 => ?_)
                      · skip
                        exact J_237_124 vi_11 va_11 vg_11 _ _ _ hI hP hS (lv_sub hl [8, 9, 7, 6, 5, 4, 3, 2, 1, 0] rfl)
                      · skip
                        refine lv_aload_n hx hb dX11_replay_200 rfl (lv_at hl 8 rfl) ?_
                        refine zg_10_8 C hs hP ha0 hk0 wf_X11_53 dX11_replay_201 ?_
                        have hf_147 := hO.r (j := 8) ha0 hk0 (rfl : zX 10 8 = some (2, 0))
                        refine lv_aload_n hx hb dX11_replay_204 rfl (lv_at hl 8 rfl) ?_
                        refine zg_10_5 C hs hP ha0 hk0 wf_X11_34 dX11_replay_205 ?_
                        refine lv_iload hx hb dX11_replay_208 (lv_at hl 1 rfl) ?_
                        refine lv_iconst (v := 1) hx hb dX11_replay_210 (by decide) ?_
                        refine lv_iand hx hb dX11_replay_211 ?_
                        refine lv_topi (fun x_148 ex_148 => ?_)
                        refine zcI (zrV (As := [.ref (zr K a0 5), .int x_148]) (b := zr K a0 8) (rest := []) C hs hP hS (c_X2_bestOf l D K hO vi_11 va_11 vg_11 hI (zr K a0 8) hf_147.1 hf_147.2.1 (zr K a0 5) hf_6.1 hf_6.2.1 x_148) m_X2_bestOf wm_X11_240 (zrecv hs hP hf_147.1 (zF_2 hf_147.2.1) rfl) ⟨by decide, by decide⟩ hl.1 (Nat.le_of_ble_eq_true rfl) dX11_replay_212) hS (fun x_149 V_149 H locs p_149 hP hS => ?_)
                        obtain ⟨vi_149, va_149, vg_149⟩ := V_149
                        have hI := p_149
                        try dsimp only at hI
                        refine lv_iload hx hb dX11_replay_215 (lv_at hl 0 rfl) ?_
                        refine bi_lt (tgt := 237) hx hb rfl rfl dX11_replay_217 (by decide) (fun c_150 => ?_) (fun c_150 => ?_)
                        · skip
                          exact J_237_124 vi_149 va_149 vg_149 _ _ _ hI hP hS (lv_sub hl [8, 9, 7, 6, 5, 4, 3, 2, 1, 0] rfl)
                        · skip
                          refine lv_aload_n hx hb dX11_replay_220 rfl (lv_at hl 8 rfl) ?_
                          refine zg_10_5 C hs hP ha0 hk0 wf_X11_34 dX11_replay_221 ?_
                          refine lv_aload_n hx hb dX11_replay_224 rfl (lv_at hl 8 rfl) ?_
                          refine zg_10_7 C hs hP ha0 hk0 wf_X11_47 dX11_replay_225 ?_
                          have hf_151 := hO.r (j := 7) ha0 hk0 (rfl : zX 10 7 = some (5, 0))
                          refine lv_iload hx hb dX11_replay_228 (lv_at hl 1 rfl) ?_
                          refine lv_iconst (v := 1) hx hb dX11_replay_230 (by decide) ?_
                          refine lv_iand hx hb dX11_replay_231 ?_
                          refine lv_topi (fun x_152 ex_152 => ?_)
                          refine lv_iload hx hb dX11_replay_232 (lv_at hl 0 rfl) ?_
                          have f_152 := z_and ex_152 ti_1 (by decide)
                          have f_93 := z_and ex_93 ti_63 (by decide)
                          have hq_153 : 0 ≤ x_152.toInt ∧ x_152.toInt ≤ 1 := by first | assumption | omega
                          refine zcV (zrV (As := [.ref (zr K a0 7), .int x_152, .int x_93]) (b := zr K a0 5) (rest := []) C hs hP hS (c_X9_claimBy l D K hO vi_149 va_149 vg_149 hI (zr K a0 5) hf_6.1 hf_6.2.1 (zr K a0 7) hf_151.1 hf_151.2.1 x_152 x_93 hq_153) m_X9_claimBy wm_X11_257 (zrecv hs hP hf_6.1 (zF_8 hf_6.2.1) rfl) ⟨by decide, by decide⟩ hl.1 (Nat.le_of_ble_eq_true rfl) dX11_replay_234) hS (fun V_154 H locs p_154 hP hS => ?_)
                          obtain ⟨vi_154, va_154, vg_154⟩ := V_154
                          obtain ⟨hI, hg_154⟩ := p_154
                          try dsimp only at hI hg_154
                          replace hg_154 := hg_154.symm
                          subst hg_154
                          exact J_237_124 vi_154 va_154 vg_149 _ _ _ hI hP hS (lv_sub hl [8, 9, 7, 6, 5, 4, 3, 2, 1, 0] rfl)
                  · skip
                    refine lv_aload_n hx hb dX11_replay_162 rfl (lv_at hl 8 rfl) ?_
                    refine lv_aload_n hx hb dX11_replay_163 rfl (lv_at hl 8 rfl) ?_
                    refine zg_10_5 C hs hP ha0 hk0 wf_X11_34 dX11_replay_164 ?_
                    refine lv_aload_n hx hb dX11_replay_167 rfl (lv_at hl 8 rfl) ?_
                    refine zg_10_7 C hs hP ha0 hk0 wf_X11_47 dX11_replay_168 ?_
                    have hf_155 := hO.r (j := 7) ha0 hk0 (rfl : zX 10 7 = some (5, 0))
                    refine lv_iload hx hb dX11_replay_171 (lv_at hl 2 rfl) ?_
                    refine lv_iload hx hb dX11_replay_173 (lv_at hl 1 rfl) ?_
                    refine lv_iload hx hb dX11_replay_175 (lv_at hl 0 rfl) ?_
                    refine zcI (zrV (As := [.ref (zr K a0 5), .ref (zr K a0 7), .int x_89, .int x_91, .int x_93]) (b := a0) (rest := []) C hs hP hS (c_X11_play l D K hO vi_11 va_11 vg_11 hI a0 ha0 hk0 (zr K a0 5) hf_6.1 hf_6.2.1 (zr K a0 7) hf_155.1 hf_155.2.1 x_89 x_91 x_93) m_X11_play wm_X11_190 (zrecv hs hP ha0 (zF_10 hk0) rfl) ⟨by decide, by decide⟩ hl.1 (Nat.le_of_ble_eq_true rfl) dX11_replay_177) hS (fun x_156 V_156 H locs p_156 hP hS => ?_)
                    obtain ⟨vi_156, va_156, vg_156⟩ := V_156
                    have hI := p_156
                    try dsimp only at hI
                    refine lv_pop hx hb dX11_replay_180 rfl ?_
                    refine lv_goto (tgt := 237) hx hb dX11_replay_181 (by decide) ?_
                    exact J_237_124 vi_156 va_156 vg_156 _ _ _ hI hP hS (lv_sub hl [8, 9, 7, 6, 5, 4, 3, 2, 1, 0] rfl)
              · skip
                refine lv_aload_n hx hb dX11_replay_129 rfl (lv_at hl 8 rfl) ?_
                refine lv_iload hx hb dX11_replay_130 (lv_at hl 2 rfl) ?_
                refine lv_iload hx hb dX11_replay_132 (lv_at hl 1 rfl) ?_
                refine lv_iload hx hb dX11_replay_134 (lv_at hl 0 rfl) ?_
                refine lv_iload hx hb dX11_replay_136 (lv_at hl 3 rfl) ?_
                refine lv_iconst (v := 3) hx hb dX11_replay_138 (by decide) ?_
                refine lv_iand hx hb dX11_replay_139 ?_
                refine lv_topi (fun x_157 ex_157 => ?_)
                refine zcV (zrV (As := [.int x_89, .int x_91, .int x_93, .int x_157]) (b := a0) (rest := []) C hs hP hS (c_X11_repeatAside l D K hO vi_11 va_11 vg_11 hI a0 ha0 hk0 x_89 x_91 x_93 x_157) m_X11_repeatAside wm_X11_273 (zrecv hs hP ha0 (zF_10 hk0) rfl) ⟨by decide, by decide⟩ hl.1 (Nat.le_of_ble_eq_true rfl) dX11_replay_140) hS (fun V_158 H locs p_158 hP hS => ?_)
                obtain ⟨vi_158, va_158, vg_158⟩ := V_158
                obtain ⟨hI, hg_158⟩ := p_158
                try dsimp only at hI hg_158
                replace hg_158 := hg_158.symm
                subst hg_158
                refine lv_goto (tgt := 237) hx hb dX11_replay_143 (by decide) ?_
                exact J_237_124 vi_158 va_158 vg_11 _ _ _ hI hP hS (lv_sub hl [8, 9, 7, 6, 5, 4, 3, 2, 1, 0] rfl)
        have g_159 := z_rng (vi (zr K (zr K q_1 13) 17) 1)
        have g_160 := z_rng (vi (zr K q_1 13) 0)
        exact L_77_10 _ vi_8 va_8 vg_7 _ _ 0 _ (Nat.lt_succ_self _) (by simp only [ti_0]; omega) hI hP hS (lv_sub hl [0, 1, 2, 3, 4, 5] rfl)
      · skip
        refine lv_iconst (v := 0) hx hb dX11_replay_40 (by decide) ?_
        exact zaI hQ hx hb hr hlk hP hS hI dX11_replay_41
    · skip
      refine lv_bipush (v := (-4)) hx hb dX11_replay_25 (by decide) ?_
      exact zaI hQ hx hb hr hlk hP hS hI dX11_replay_27
