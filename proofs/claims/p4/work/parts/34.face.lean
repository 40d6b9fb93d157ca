set_option maxHeartbeats 4000000 in
set_option maxRecDepth 100000 in
theorem c_X12_turn (l : Launch) (D : va_G) (K : zK) (hM : mK K) (f : Nat → Int32) (A : Nat → Nat → Int32) (hT : mT f A) (a0 : Nat) (ha0 : a0 ∈ zl K) (hk0 : zk K a0 = 11) (x1 : Int32) : Met l yX12_turn (zc yX12_turn cX12_turn 2 (some .int)) (rmd 2) (va_Pc [.ref a0, .int x1] (zB D K (mV K f A))) (vp_Si (fun r => True)) 0 0 (fun _ => False) := by
  refine zin (by decide) (Nat.le_of_ble_eq_true rfl) ?_
  intro p e s m args below meth c ls Q hQ C hr hlk hP hs hl
  have C : CallFix p m c cX12_turn 2 s args zw RX12 := C
  obtain ⟨hx, hb, hml, hown, hts⟩ := id C
  have hO := hM.1
  have hS : va_S (zA K) s.heap s.heap [] := va_S.rf
  have hl : lv_has ls 2 [(0, .ref a0), (1, .int x1)] := hl
  refine lv_aload_n hx hb dX12_turn_0 rfl (lv_at hl 0 rfl) ?_
  refine lv_iload_n hx hb dX12_turn_1 rfl (lv_at hl 1 rfl) ?_
  refine zcS (zrV (As := [.int x1]) (b := a0) (rest := []) C hs hP hS (c_X12_isTable l D K hM f A hT a0 ha0 hk0 x1) m_X12_isTable wm_X12_107 (zrecv hs hP ha0 (zF_11 hk0) rfl) ⟨by decide, by decide⟩ hl.1 (Nat.le_of_ble_eq_true rfl) dX12_turn_2) (fun x_1 p_1 => ?_)
  have pp_1 : (x_1.toInt ≠ 0 → 0 ≤ x1.toInt ∧ x1.toInt ≤ 3) := p_1.2
  have g_2 := z_rng x1
  refine bz_eq (tgt := 24) hx hb rfl dX12_turn_5 (by decide) (fun c_3 => ?_) (fun c_3 => ?_)
  · skip
    clear pp_1
    refine lv_bipush (v := (-2)) hx hb dX12_turn_24 (by decide) ?_
    exact zaS hQ hx hb hr hlk trivial dX12_turn_26
  · skip
    replace pp_1 := pp_1 c_3
    refine lv_aload_n hx hb dX12_turn_8 rfl (lv_at hl 0 rfl) ?_
    refine mg_0 C hs hP ha0 hk0 wf_X12_8 dX12_turn_9 ?_
    have hf_4 := hO.r (j := 0) ha0 hk0 (rfl : zX 11 0 = some (40, 47730))
    refine lv_sipush (v := 1290) hx hb dX12_turn_12 (by decide) ?_
    refine lv_iload_n hx hb dX12_turn_15 rfl (lv_at hl 1 rfl) ?_
    refine lv_imul hx hb dX12_turn_16 ?_
    refine lv_topi (fun x_5 ex_5 => ?_)
    refine lv_bipush (v := 9) hx hb dX12_turn_17 (by decide) ?_
    refine lv_iadd hx hb dX12_turn_19 ?_
    refine lv_topi (fun x_6 ex_6 => ?_)
    obtain ⟨f_5, l_5, u_5⟩ := z_mul ex_5 ti_1290 rfl
    try replace f_5 : x_5.toInt = 1290 * x1.toInt := by omega
    clear l_5 u_5
    have hbs_8 : zRow x_5.toInt := zRow.of (t := x1.toInt) (by omega) (by omega)
    have hbl_hbs_8 := hbs_8.lin
    have hi_hr_7 : zEq x_6.toInt (x_5.toInt + 9) := by
      obtain ⟨f_6, l_6, u_6⟩ := z_add ex_6 rfl ti_9
      try replace f_6 : x_6.toInt = x_5.toInt + 9 := by omega
      clear l_6 u_6
      show x_6.toInt = (x_5.toInt + 9)
      omega
    have hl_hr_7 : (9 : Int) ≤ 9 ∧ 9 ≤ (9 : Int) := by decide
    have hid_hr_7 : (x_5.toInt + 9) = x_5.toInt + (9) := by simp only [Int.add_assoc, Int.add_sub_assoc]
    have hr_7 := z_cell (lo := 9) (hi := 9) hbs_8 hi_hr_7 hid_hr_7 hl_hr_7 (by decide)
    replace hid_hr_7 : zEq (x_5.toInt + 9) (x_5.toInt + (9)) := hid_hr_7
    have hin_9 : vp_in x_6 (zn K (zr K a0 0)) := vp_in_iff.mpr (by rw [(hf_4.2.2 (by decide))]; exact hr_7.in)
    refine mld_40 C hs hP hf_4.1 hf_4.2.1 hin_9 dX12_turn_20 ?_
    have ep_10 : x_6.toNatClampNeg = (x_5.toInt + 9).toNat := z_posE hi_hr_7
    rw [ep_10]
    have tv_11 := rv_9 hT hr_7
    rw [ep_10] at tv_11
    refine lv_goto (tgt := 26) hx hb dX12_turn_21 (by decide) ?_
    exact zaS hQ hx hb hr hlk trivial dX12_turn_26
set_option maxHeartbeats 4000000 in
set_option maxRecDepth 100000 in
theorem c_X12_winner (l : Launch) (D : va_G) (K : zK) (hM : mK K) (f : Nat → Int32) (A : Nat → Nat → Int32) (hT : mT f A) (a0 : Nat) (ha0 : a0 ∈ zl K) (hk0 : zk K a0 = 11) (x1 : Int32) : Met l yX12_winner (zc yX12_winner cX12_winner 2 (some .int)) (rmd 2) (va_Pc [.ref a0, .int x1] (zB D K (mV K f A))) (vp_Si (fun r => True)) 0 0 (fun _ => False) := by
  refine zin (by decide) (Nat.le_of_ble_eq_true rfl) ?_
  intro p e s m args below meth c ls Q hQ C hr hlk hP hs hl
  have C : CallFix p m c cX12_winner 2 s args zw RX12 := C
  obtain ⟨hx, hb, hml, hown, hts⟩ := id C
  have hO := hM.1
  have hS : va_S (zA K) s.heap s.heap [] := va_S.rf
  have hl : lv_has ls 2 [(0, .ref a0), (1, .int x1)] := hl
  refine lv_aload_n hx hb dX12_winner_0 rfl (lv_at hl 0 rfl) ?_
  refine lv_iload_n hx hb dX12_winner_1 rfl (lv_at hl 1 rfl) ?_
  refine zcS (zrV (As := [.int x1]) (b := a0) (rest := []) C hs hP hS (c_X12_isTable l D K hM f A hT a0 ha0 hk0 x1) m_X12_isTable wm_X12_107 (zrecv hs hP ha0 (zF_11 hk0) rfl) ⟨by decide, by decide⟩ hl.1 (Nat.le_of_ble_eq_true rfl) dX12_winner_2) (fun x_1 p_1 => ?_)
  have pp_1 : (x_1.toInt ≠ 0 → 0 ≤ x1.toInt ∧ x1.toInt ≤ 3) := p_1.2
  have g_2 := z_rng x1
  refine bz_eq (tgt := 24) hx hb rfl dX12_winner_5 (by decide) (fun c_3 => ?_) (fun c_3 => ?_)
  · skip
    clear pp_1
    refine lv_bipush (v := (-2)) hx hb dX12_winner_24 (by decide) ?_
    exact zaS hQ hx hb hr hlk trivial dX12_winner_26
  · skip
    replace pp_1 := pp_1 c_3
    refine lv_aload_n hx hb dX12_winner_8 rfl (lv_at hl 0 rfl) ?_
    refine mg_0 C hs hP ha0 hk0 wf_X12_8 dX12_winner_9 ?_
    have hf_4 := hO.r (j := 0) ha0 hk0 (rfl : zX 11 0 = some (40, 47730))
    refine lv_sipush (v := 1290) hx hb dX12_winner_12 (by decide) ?_
    refine lv_iload_n hx hb dX12_winner_15 rfl (lv_at hl 1 rfl) ?_
    refine lv_imul hx hb dX12_winner_16 ?_
    refine lv_topi (fun x_5 ex_5 => ?_)
    refine lv_bipush (v := 19) hx hb dX12_winner_17 (by decide) ?_
    refine lv_iadd hx hb dX12_winner_19 ?_
    refine lv_topi (fun x_6 ex_6 => ?_)
    obtain ⟨f_5, l_5, u_5⟩ := z_mul ex_5 ti_1290 rfl
    try replace f_5 : x_5.toInt = 1290 * x1.toInt := by omega
    clear l_5 u_5
    have hbs_8 : zRow x_5.toInt := zRow.of (t := x1.toInt) (by omega) (by omega)
    have hbl_hbs_8 := hbs_8.lin
    have hi_hr_7 : zEq x_6.toInt (x_5.toInt + 19) := by
      obtain ⟨f_6, l_6, u_6⟩ := z_add ex_6 rfl ti_19
      try replace f_6 : x_6.toInt = x_5.toInt + 19 := by omega
      clear l_6 u_6
      show x_6.toInt = (x_5.toInt + 19)
      omega
    have hl_hr_7 : (19 : Int) ≤ 19 ∧ 19 ≤ (19 : Int) := by decide
    have hid_hr_7 : (x_5.toInt + 19) = x_5.toInt + (19) := by simp only [Int.add_assoc, Int.add_sub_assoc]
    have hr_7 := z_cell (lo := 10) (hi := 19) hbs_8 hi_hr_7 hid_hr_7 hl_hr_7 (by decide)
    replace hid_hr_7 : zEq (x_5.toInt + 19) (x_5.toInt + (19)) := hid_hr_7
    have hin_9 : vp_in x_6 (zn K (zr K a0 0)) := vp_in_iff.mpr (by rw [(hf_4.2.2 (by decide))]; exact hr_7.in)
    refine mld_40 C hs hP hf_4.1 hf_4.2.1 hin_9 dX12_winner_20 ?_
    have ep_10 : x_6.toNatClampNeg = (x_5.toInt + 19).toNat := z_posE hi_hr_7
    rw [ep_10]
    refine lv_goto (tgt := 26) hx hb dX12_winner_21 (by decide) ?_
    exact zaS hQ hx hb hr hlk trivial dX12_winner_26
set_option maxHeartbeats 4000000 in
set_option maxRecDepth 100000 in
theorem c_X12_tie (l : Launch) (D : va_G) (K : zK) (hM : mK K) (f : Nat → Int32) (A : Nat → Nat → Int32) (hT : mT f A) (a0 : Nat) (ha0 : a0 ∈ zl K) (hk0 : zk K a0 = 11) (x1 : Int32) : Met l yX12_tie (zc yX12_tie cX12_tie 7 (some .int)) (rmd 2) (va_Pc [.ref a0, .int x1] (zB D K (mV K f A))) (vp_Si (fun r => True)) 0 0 (fun _ => False) := by
  refine zin (by decide) (Nat.le_of_ble_eq_true rfl) ?_
  intro p e s m args below meth c ls Q hQ C hr hlk hP hs hl
  have C : CallFix p m c cX12_tie 7 s args zw RX12 := C
  obtain ⟨hx, hb, hml, hown, hts⟩ := id C
  have hO := hM.1
  have hS : va_S (zA K) s.heap s.heap [] := va_S.rf
  have hl : lv_has ls 7 [(0, .ref a0), (1, .int x1)] := hl
  refine lv_aload_n hx hb dX12_tie_0 rfl (lv_at hl 0 rfl) ?_
  refine lv_iload_n hx hb dX12_tie_1 rfl (lv_at hl 1 rfl) ?_
  refine zcS (zrV (As := [.int x1]) (b := a0) (rest := []) C hs hP hS (c_X12_isTable l D K hM f A hT a0 ha0 hk0 x1) m_X12_isTable wm_X12_107 (zrecv hs hP ha0 (zF_11 hk0) rfl) ⟨by decide, by decide⟩ hl.1 (Nat.le_of_ble_eq_true rfl) dX12_tie_2) (fun x_1 p_1 => ?_)
  have pp_1 : (x_1.toInt ≠ 0 → 0 ≤ x1.toInt ∧ x1.toInt ≤ 3) := p_1.2
  have g_2 := z_rng x1
  refine bz_ne (tgt := 11) hx hb rfl dX12_tie_5 (by decide) (fun c_3 => ?_) (fun c_3 => ?_)
  · skip
    replace pp_1 := pp_1 c_3
    refine lv_sipush (v := 1290) hx hb dX12_tie_11 (by decide) ?_
    refine lv_iload_n hx hb dX12_tie_14 rfl (lv_at hl 1 rfl) ?_
    refine lv_imul hx hb dX12_tie_15 ?_
    refine lv_topi (fun x_4 ex_4 => ?_)
    refine lv_bipush (v := 39) hx hb dX12_tie_16 (by decide) ?_
    refine lv_iadd hx hb dX12_tie_18 ?_
    refine lv_topi (fun x_5 ex_5 => ?_)
    refine lv_istore_n (lv' := [(2, .int x_5), (0, .ref a0), (1, .int x1)]) hx hb dX12_tie_19 rfl hl (by decide) rfl (fun ls hl => ?_)
    refine lv_aload_n hx hb dX12_tie_20 rfl (lv_at hl 1 rfl) ?_
    refine mg_0 C hs hP ha0 hk0 wf_X12_8 dX12_tie_21 ?_
    have hf_6 := hO.r (j := 0) ha0 hk0 (rfl : zX 11 0 = some (40, 47730))
    refine lv_iload_n hx hb dX12_tie_24 rfl (lv_at hl 0 rfl) ?_
    obtain ⟨f_4, l_4, u_4⟩ := z_mul ex_4 ti_1290 rfl
    try replace f_4 : x_4.toInt = 1290 * x1.toInt := by omega
    clear l_4 u_4
    have hbs_8 : zRow x_4.toInt := zRow.of (t := x1.toInt) (by omega) (by omega)
    have hbl_hbs_8 := hbs_8.lin
    have hi_hr_7 : zEq x_5.toInt (x_4.toInt + 39) := by
      obtain ⟨f_5, l_5, u_5⟩ := z_add ex_5 rfl ti_39
      try replace f_5 : x_5.toInt = x_4.toInt + 39 := by omega
      clear l_5 u_5
      show x_5.toInt = (x_4.toInt + 39)
      omega
    have hl_hr_7 : (39 : Int) ≤ 39 ∧ 39 ≤ (39 : Int) := by decide
    have hid_hr_7 : (x_4.toInt + 39) = x_4.toInt + (39) := by simp only [Int.add_assoc, Int.add_sub_assoc]
    have hr_7 := z_cell (lo := 39) (hi := 42) hbs_8 hi_hr_7 hid_hr_7 hl_hr_7 (by decide)
    replace hid_hr_7 : zEq (x_4.toInt + 39) (x_4.toInt + (39)) := hid_hr_7
    have hin_9 : vp_in x_5 (zn K (zr K a0 0)) := vp_in_iff.mpr (by rw [(hf_6.2.2 (by decide))]; exact hr_7.in)
    refine mld_40 C hs hP hf_6.1 hf_6.2.1 hin_9 dX12_tie_25 ?_
    have ep_10 : x_5.toNatClampNeg = (x_4.toInt + 39).toNat := z_posE hi_hr_7
    rw [ep_10]
    obtain ⟨z_11, ez_11⟩ : ∃ z : Int64, (A 40 (x_4.toInt + 39).toNat).toInt64 = z := ⟨_, rfl⟩
    refine lv_i2l hx hb dX12_tie_26 ez_11 ?_
    refine lv_aload_n hx hb dX12_tie_27 rfl (lv_at hl 1 rfl) ?_
    refine mg_0 C hs hP ha0 hk0 wf_X12_8 dX12_tie_28 ?_
    refine lv_iload_n hx hb dX12_tie_31 rfl (lv_at hl 0 rfl) ?_
    refine lv_iconst (v := 2) hx hb dX12_tie_32 (by decide) ?_
    refine lv_iadd hx hb dX12_tie_33 ?_
    refine lv_topi (fun x_12 ex_12 => ?_)
    have hi_hr_13 : zEq x_12.toInt (x_4.toInt + 41) := by
      obtain ⟨f_5, l_5, u_5⟩ := z_add ex_5 rfl ti_39
      try replace f_5 : x_5.toInt = x_4.toInt + 39 := by omega
      clear l_5 u_5
      obtain ⟨f_12, l_12, u_12⟩ := z_add ex_12 rfl ti_2
      try replace f_12 : x_12.toInt = x_5.toInt + 2 := by omega
      clear l_12 u_12
      show x_12.toInt = (x_4.toInt + 41)
      omega
    have hl_hr_13 : (41 : Int) ≤ 41 ∧ 41 ≤ (41 : Int) := by decide
    have hid_hr_13 : (x_4.toInt + 41) = x_4.toInt + (41) := by simp only [Int.add_assoc, Int.add_sub_assoc]
    have hr_13 := z_cell (lo := 39) (hi := 42) hbs_8 hi_hr_13 hid_hr_13 hl_hr_13 (by decide)
    replace hid_hr_13 : zEq (x_4.toInt + 41) (x_4.toInt + (41)) := hid_hr_13
    have hin_14 : vp_in x_12 (zn K (zr K a0 0)) := vp_in_iff.mpr (by rw [(hf_6.2.2 (by decide))]; exact hr_13.in)
    refine mld_40 C hs hP hf_6.1 hf_6.2.1 hin_14 dX12_tie_34 ?_
    have ep_15 : x_12.toNatClampNeg = (x_4.toInt + 41).toNat := z_posE hi_hr_13
    rw [ep_15]
    obtain ⟨z_16, ez_16⟩ : ∃ z : Int64, (A 40 (x_4.toInt + 41).toNat).toInt64 = z := ⟨_, rfl⟩
    refine lv_i2l hx hb dX12_tie_35 ez_16 ?_
    refine lv_ladd hx hb dX12_tie_36 ?_
    refine lv_topl (fun z_17 ez_17 => ?_)
    refine lv_lstore_n (lv' := [(3, .long z_17), (2, .int x_5), (0, .ref a0), (1, .int x1)]) hx hb dX12_tie_37 rfl hl (by decide) rfl (fun ls hl => ?_)
    refine lv_aload_n hx hb dX12_tie_38 rfl (lv_at hl 2 rfl) ?_
    refine mg_0 C hs hP ha0 hk0 wf_X12_8 dX12_tie_39 ?_
    refine lv_iload_n hx hb dX12_tie_42 rfl (lv_at hl 1 rfl) ?_
    refine lv_iconst (v := 1) hx hb dX12_tie_43 (by decide) ?_
    refine lv_iadd hx hb dX12_tie_44 ?_
    refine lv_topi (fun x_18 ex_18 => ?_)
    have hi_hr_19 : zEq x_18.toInt (x_4.toInt + 40) := by
      obtain ⟨f_5, l_5, u_5⟩ := z_add ex_5 rfl ti_39
      try replace f_5 : x_5.toInt = x_4.toInt + 39 := by omega
      clear l_5 u_5
      obtain ⟨f_18, l_18, u_18⟩ := z_add ex_18 rfl ti_1
      try replace f_18 : x_18.toInt = x_5.toInt + 1 := by omega
      clear l_18 u_18
      show x_18.toInt = (x_4.toInt + 40)
      omega
    have hl_hr_19 : (40 : Int) ≤ 40 ∧ 40 ≤ (40 : Int) := by decide
    have hid_hr_19 : (x_4.toInt + 40) = x_4.toInt + (40) := by simp only [Int.add_assoc, Int.add_sub_assoc]
    have hr_19 := z_cell (lo := 39) (hi := 42) hbs_8 hi_hr_19 hid_hr_19 hl_hr_19 (by decide)
    replace hid_hr_19 : zEq (x_4.toInt + 40) (x_4.toInt + (40)) := hid_hr_19
    have hin_20 : vp_in x_18 (zn K (zr K a0 0)) := vp_in_iff.mpr (by rw [(hf_6.2.2 (by decide))]; exact hr_19.in)
    refine mld_40 C hs hP hf_6.1 hf_6.2.1 hin_20 dX12_tie_45 ?_
    have ep_21 : x_18.toNatClampNeg = (x_4.toInt + 40).toNat := z_posE hi_hr_19
    rw [ep_21]
    obtain ⟨z_22, ez_22⟩ : ∃ z : Int64, (A 40 (x_4.toInt + 40).toNat).toInt64 = z := ⟨_, rfl⟩
    refine lv_i2l hx hb dX12_tie_46 ez_22 ?_
    refine lv_aload_n hx hb dX12_tie_47 rfl (lv_at hl 2 rfl) ?_
    refine mg_0 C hs hP ha0 hk0 wf_X12_8 dX12_tie_48 ?_
    refine lv_iload_n hx hb dX12_tie_51 rfl (lv_at hl 1 rfl) ?_
    refine lv_iconst (v := 3) hx hb dX12_tie_52 (by decide) ?_
    refine lv_iadd hx hb dX12_tie_53 ?_
    refine lv_topi (fun x_23 ex_23 => ?_)
    have hi_hr_24 : zEq x_23.toInt (x_4.toInt + 42) := by
      obtain ⟨f_5, l_5, u_5⟩ := z_add ex_5 rfl ti_39
      try replace f_5 : x_5.toInt = x_4.toInt + 39 := by omega
      clear l_5 u_5
      obtain ⟨f_23, l_23, u_23⟩ := z_add ex_23 rfl ti_3
      try replace f_23 : x_23.toInt = x_5.toInt + 3 := by omega
      clear l_23 u_23
      show x_23.toInt = (x_4.toInt + 42)
      omega
    have hl_hr_24 : (42 : Int) ≤ 42 ∧ 42 ≤ (42 : Int) := by decide
    have hid_hr_24 : (x_4.toInt + 42) = x_4.toInt + (42) := by simp only [Int.add_assoc, Int.add_sub_assoc]
    have hr_24 := z_cell (lo := 39) (hi := 42) hbs_8 hi_hr_24 hid_hr_24 hl_hr_24 (by decide)
    replace hid_hr_24 : zEq (x_4.toInt + 42) (x_4.toInt + (42)) := hid_hr_24
    have hin_25 : vp_in x_23 (zn K (zr K a0 0)) := vp_in_iff.mpr (by rw [(hf_6.2.2 (by decide))]; exact hr_24.in)
    refine mld_40 C hs hP hf_6.1 hf_6.2.1 hin_25 dX12_tie_54 ?_
    have ep_26 : x_23.toNatClampNeg = (x_4.toInt + 42).toNat := z_posE hi_hr_24
    rw [ep_26]
    obtain ⟨z_27, ez_27⟩ : ∃ z : Int64, (A 40 (x_4.toInt + 42).toNat).toInt64 = z := ⟨_, rfl⟩
    refine lv_i2l hx hb dX12_tie_55 ez_27 ?_
    refine lv_ladd hx hb dX12_tie_56 ?_
    refine lv_topl (fun z_28 ez_28 => ?_)
    refine lv_lstore (lv' := [(5, .long z_28), (3, .long z_17), (2, .int x_5), (0, .ref a0), (1, .int x1)]) hx hb dX12_tie_57 hl (by decide) rfl (fun ls hl => ?_)
    refine lv_lload_n hx hb dX12_tie_59 rfl (lv_at hl 1 rfl) ?_
    refine lv_lload hx hb dX12_tie_60 (lv_at hl 0 rfl) ?_
    refine W.lcmp hx hb dX12_tie_62 ?_
    refine lv_topi (fun x_29 ex_29 => ?_)
    refine bz_le (tgt := 70) hx hb rfl dX12_tie_63 (by decide) (fun c_30 => ?_) (fun c_30 => ?_)
    · skip
      refine lv_lload hx hb dX12_tie_70 (lv_at hl 0 rfl) ?_
      refine lv_lload_n hx hb dX12_tie_72 rfl (lv_at hl 1 rfl) ?_
      refine W.lcmp hx hb dX12_tie_73 ?_
      refine lv_topi (fun x_31 ex_31 => ?_)
      refine bz_le (tgt := 81) hx hb rfl dX12_tie_74 (by decide) (fun c_32 => ?_) (fun c_32 => ?_)
      · skip
        refine lv_iconst (v := 2) hx hb dX12_tie_81 (by decide) ?_
        exact zaS hQ hx hb hr hlk trivial dX12_tie_82
      · skip
        refine lv_iconst (v := 1) hx hb dX12_tie_77 (by decide) ?_
        refine lv_goto (tgt := 82) hx hb dX12_tie_78 (by decide) ?_
        exact zaS hQ hx hb hr hlk trivial dX12_tie_82
    · skip
      refine lv_iconst (v := 0) hx hb dX12_tie_66 (by decide) ?_
      refine lv_goto (tgt := 82) hx hb dX12_tie_67 (by decide) ?_
      exact zaS hQ hx hb hr hlk trivial dX12_tie_82
  · skip
    clear pp_1
    refine lv_bipush (v := (-2)) hx hb dX12_tie_8 (by decide) ?_
    exact zaS hQ hx hb hr hlk trivial dX12_tie_10
set_option maxHeartbeats 4000000 in
set_option maxRecDepth 100000 in
theorem c_X12_digest (l : Launch) (D : va_G) (K : zK) (hM : mK K) (f : Nat → Int32) (A : Nat → Nat → Int32) (hT : mT f A) (a0 : Nat) (ha0 : a0 ∈ zl K) (hk0 : zk K a0 = 11) (x1 : Int32) : Met l yX12_digest (zc yX12_digest cX12_digest 6 (some .int)) (rmd 2) (va_Pc [.ref a0, .int x1] (zB D K (mV K f A))) (vp_Si (fun r => True)) 0 0 (fun _ => False) := by
  refine zin (by decide) (Nat.le_of_ble_eq_true rfl) ?_
  intro p e s m args below meth c ls Q hQ C hr hlk hP hs hl
  have C : CallFix p m c cX12_digest 6 s args zw RX12 := C
  obtain ⟨hx, hb, hml, hown, hts⟩ := id C
  have hO := hM.1
  have hS : va_S (zA K) s.heap s.heap [] := va_S.rf
  have hl : lv_has ls 6 [(0, .ref a0), (1, .int x1)] := hl
  refine lv_aload_n hx hb dX12_digest_0 rfl (lv_at hl 0 rfl) ?_
  refine lv_iload_n hx hb dX12_digest_1 rfl (lv_at hl 1 rfl) ?_
  refine zcS (zrV (As := [.int x1]) (b := a0) (rest := []) C hs hP hS (c_X12_isTable l D K hM f A hT a0 ha0 hk0 x1) m_X12_isTable wm_X12_107 (zrecv hs hP ha0 (zF_11 hk0) rfl) ⟨by decide, by decide⟩ hl.1 (Nat.le_of_ble_eq_true rfl) dX12_digest_2) (fun x_1 p_1 => ?_)
  have pp_1 : (x_1.toInt ≠ 0 → 0 ≤ x1.toInt ∧ x1.toInt ≤ 3) := p_1.2
  have g_2 := z_rng x1
  refine bz_ne (tgt := 11) hx hb rfl dX12_digest_5 (by decide) (fun c_3 => ?_) (fun c_3 => ?_)
  · skip
    replace pp_1 := pp_1 c_3
    refine lv_sipush (v := 1290) hx hb dX12_digest_11 (by decide) ?_
    refine lv_iload_n hx hb dX12_digest_14 rfl (lv_at hl 1 rfl) ?_
    refine lv_imul hx hb dX12_digest_15 ?_
    refine lv_topi (fun x_4 ex_4 => ?_)
    refine lv_istore_n (lv' := [(2, .int x_4), (0, .ref a0), (1, .int x1)]) hx hb dX12_digest_16 rfl hl (by decide) rfl (fun ls hl => ?_)
    refine lv_bipush (v := 17) hx hb dX12_digest_17 (by decide) ?_
    refine lv_istore_n (lv' := [(3, .int 17), (2, .int x_4), (0, .ref a0), (1, .int x1)]) hx hb dX12_digest_19 rfl hl (by decide) rfl (fun ls hl => ?_)
    refine lv_iconst (v := 0) hx hb dX12_digest_20 (by decide) ?_
    refine lv_istore (lv' := [(4, .int 0), (3, .int 17), (2, .int x_4), (0, .ref a0), (1, .int x1)]) hx hb dX12_digest_21 hl (by decide) rfl (fun ls hl => ?_)
    have L_23_7 : ∀ (n_7 : Nat) (y_5 : Int32) (y_6 : Int32) (ls : Array Slot), (2147483648 - y_5.toInt).toNat < n_7 → 0 ≤ y_5.toInt → lv_has ls 6 [(4, .int y_5), (3, .int y_6), (2, .int x_4), (0, .ref a0), (1, .int x1)] → W p l e (rmd 2) s m args below meth c s.heap [] 0 0 Q (F0 m 23 ls []) := by
      intro n_7
      induction n_7 with
      | zero => intro y_5 y_6 ls hm_7; exact absurd hm_7 (Nat.not_lt_zero _)
      | succ n_7 ih_7 =>
        intro y_5 y_6 ls hm_7 iv_8_0 hl
        refine lv_iload hx hb dX12_digest_23 (lv_at hl 0 rfl) ?_
        refine lv_iconst (v := 4) hx hb dX12_digest_25 (by decide) ?_
        refine bi_ge (tgt := 104) hx hb rfl ti_4 dX12_digest_26 (by decide) (fun c_9 => ?_) (fun c_9 => ?_)
        · skip
          refine lv_bipush (v := 31) hx hb dX12_digest_104 (by decide) ?_
          refine lv_iload_n hx hb dX12_digest_106 rfl (lv_at hl 1 rfl) ?_
          refine lv_imul hx hb dX12_digest_107 ?_
          refine lv_topi (fun x_71 ex_71 => ?_)
          refine lv_aload_n hx hb dX12_digest_108 rfl (lv_at hl 3 rfl) ?_
          refine mg_0 C hs hP ha0 hk0 wf_X12_8 dX12_digest_109 ?_
          have hf_72 := hO.r (j := 0) ha0 hk0 (rfl : zX 11 0 = some (40, 47730))
          refine lv_iload_n hx hb dX12_digest_112 rfl (lv_at hl 2 rfl) ?_
          refine lv_bipush (v := 26) hx hb dX12_digest_113 (by decide) ?_
          refine lv_iadd hx hb dX12_digest_115 ?_
          refine lv_topi (fun x_73 ex_73 => ?_)
          obtain ⟨f_4, l_4, u_4⟩ := z_mul ex_4 ti_1290 rfl
          try replace f_4 : x_4.toInt = 1290 * x1.toInt := by omega
          clear l_4 u_4
          have hbs_75 : zRow x_4.toInt := zRow.of (t := x1.toInt) (by omega) (by omega)
          have hbl_hbs_75 := hbs_75.lin
          have hi_hr_74 : zEq x_73.toInt (x_4.toInt + 26) := by
            obtain ⟨f_73, l_73, u_73⟩ := z_add ex_73 rfl ti_26
            try replace f_73 : x_73.toInt = x_4.toInt + 26 := by omega
            clear l_73 u_73
            show x_73.toInt = (x_4.toInt + 26)
            omega
          have hl_hr_74 : (26 : Int) ≤ 26 ∧ 26 ≤ (26 : Int) := by decide
          have hid_hr_74 : (x_4.toInt + 26) = x_4.toInt + (26) := by simp only [Int.add_assoc, Int.add_sub_assoc]
          have hr_74 := z_cell (lo := 26) (hi := 26) hbs_75 hi_hr_74 hid_hr_74 hl_hr_74 (by decide)
          replace hid_hr_74 : zEq (x_4.toInt + 26) (x_4.toInt + (26)) := hid_hr_74
          have hin_76 : vp_in x_73 (zn K (zr K a0 0)) := vp_in_iff.mpr (by rw [(hf_72.2.2 (by decide))]; exact hr_74.in)
          refine mld_40 C hs hP hf_72.1 hf_72.2.1 hin_76 dX12_digest_116 ?_
          have ep_77 : x_73.toNatClampNeg = (x_4.toInt + 26).toNat := z_posE hi_hr_74
          rw [ep_77]
          have tv_78 := rv_26 hT hr_74
          rw [ep_77] at tv_78
          refine lv_iadd hx hb dX12_digest_117 ?_
          refine lv_topi (fun x_79 ex_79 => ?_)
          refine lv_istore_n (lv' := [(3, .int x_79), (4, .int y_5), (2, .int x_4), (0, .ref a0), (1, .int x1)]) hx hb dX12_digest_118 rfl hl (by decide) rfl (fun ls hl => ?_)
          refine lv_iconst (v := 0) hx hb dX12_digest_119 (by decide) ?_
          refine lv_istore (lv' := [(4, .int 0), (3, .int x_79), (2, .int x_4), (0, .ref a0), (1, .int x1)]) hx hb dX12_digest_120 hl (by decide) rfl (fun ls hl => ?_)
          have L_122_82 : ∀ (n_82 : Nat) (y_80 : Int32) (y_81 : Int32) (ls : Array Slot), (2147483648 - y_80.toInt).toNat < n_82 → 0 ≤ y_80.toInt → lv_has ls 6 [(4, .int y_80), (3, .int y_81), (2, .int x_4), (0, .ref a0), (1, .int x1)] → W p l e (rmd 2) s m args below meth c s.heap [] 0 0 Q (F0 m 122 ls []) := by
            intro n_82
            induction n_82 with
            | zero => intro y_80 y_81 ls hm_82; exact absurd hm_82 (Nat.not_lt_zero _)
            | succ n_82 ih_82 =>
              intro y_80 y_81 ls hm_82 iv_83_0 hl
              refine lv_iload hx hb dX12_digest_122 (lv_at hl 0 rfl) ?_
              refine lv_aload_n hx hb dX12_digest_124 rfl (lv_at hl 3 rfl) ?_
              refine mg_0 C hs hP ha0 hk0 wf_X12_8 dX12_digest_125 ?_
              refine lv_iload_n hx hb dX12_digest_128 rfl (lv_at hl 2 rfl) ?_
              refine lv_bipush (v := 26) hx hb dX12_digest_129 (by decide) ?_
              refine lv_iadd hx hb dX12_digest_131 ?_
              refine lv_topi (fun x_84 ex_84 => ?_)
              have hi_hr_85 : zEq x_84.toInt (x_4.toInt + 26) := by
                obtain ⟨f_84, l_84, u_84⟩ := z_add ex_84 rfl ti_26
                try replace f_84 : x_84.toInt = x_4.toInt + 26 := by omega
                clear l_84 u_84
                show x_84.toInt = (x_4.toInt + 26)
                omega
              have hl_hr_85 : (26 : Int) ≤ 26 ∧ 26 ≤ (26 : Int) := by decide
              have hid_hr_85 : (x_4.toInt + 26) = x_4.toInt + (26) := by simp only [Int.add_assoc, Int.add_sub_assoc]
              have hr_85 := z_cell (lo := 26) (hi := 26) hbs_75 hi_hr_85 hid_hr_85 hl_hr_85 (by decide)
              replace hid_hr_85 : zEq (x_4.toInt + 26) (x_4.toInt + (26)) := hid_hr_85
              have hin_86 : vp_in x_84 (zn K (zr K a0 0)) := vp_in_iff.mpr (by rw [(hf_72.2.2 (by decide))]; exact hr_85.in)
              refine mld_40 C hs hP hf_72.1 hf_72.2.1 hin_86 dX12_digest_132 ?_
              have ep_87 : x_84.toNatClampNeg = (x_4.toInt + 26).toNat := z_posE hi_hr_85
              rw [ep_87]
              refine bi_ge (tgt := 160) hx hb rfl rfl dX12_digest_133 (by decide) (fun c_88 => ?_) (fun c_88 => ?_)
              · skip
                refine lv_iconst (v := 0) hx hb dX12_digest_160 (by decide) ?_
                refine lv_istore (lv' := [(4, .int 0), (3, .int y_81), (2, .int x_4), (0, .ref a0), (1, .int x1)]) hx hb dX12_digest_161 hl (by decide) rfl (fun ls hl => ?_)
                have L_163_103 : ∀ (n_103 : Nat) (y_101 : Int32) (y_102 : Int32) (ls : Array Slot), (2147483648 - y_101.toInt).toNat < n_103 → 0 ≤ y_101.toInt → lv_has ls 6 [(4, .int y_101), (3, .int y_102), (2, .int x_4), (0, .ref a0), (1, .int x1)] → W p l e (rmd 2) s m args below meth c s.heap [] 0 0 Q (F0 m 163 ls []) := by
                  intro n_103
                  induction n_103 with
                  | zero => intro y_101 y_102 ls hm_103; exact absurd hm_103 (Nat.not_lt_zero _)
                  | succ n_103 ih_103 =>
                    intro y_101 y_102 ls hm_103 iv_104_0 hl
                    refine lv_iload hx hb dX12_digest_163 (lv_at hl 0 rfl) ?_
                    refine lv_iconst (v := 2) hx hb dX12_digest_165 (by decide) ?_
                    refine bi_ge (tgt := 211) hx hb rfl ti_2 dX12_digest_166 (by decide) (fun c_105 => ?_) (fun c_105 => ?_)
                    · skip
                      refine lv_iconst (v := 0) hx hb dX12_digest_211 (by decide) ?_
                      refine lv_istore (lv' := [(4, .int 0), (3, .int y_102), (2, .int x_4), (0, .ref a0), (1, .int x1)]) hx hb dX12_digest_212 hl (by decide) rfl (fun ls hl => ?_)
                      have L_214_128 : ∀ (n_128 : Nat) (y_126 : Int32) (y_127 : Int32) (ls : Array Slot), (2147483648 - y_126.toInt).toNat < n_128 → 0 ≤ y_126.toInt → lv_has ls 6 [(4, .int y_126), (3, .int y_127), (2, .int x_4), (0, .ref a0), (1, .int x1)] → W p l e (rmd 2) s m args below meth c s.heap [] 0 0 Q (F0 m 214 ls []) := by
                        intro n_128
                        induction n_128 with
                        | zero => intro y_126 y_127 ls hm_128; exact absurd hm_128 (Nat.not_lt_zero _)
                        | succ n_128 ih_128 =>
                          intro y_126 y_127 ls hm_128 iv_129_0 hl
                          refine lv_iload hx hb dX12_digest_214 (lv_at hl 0 rfl) ?_
                          refine lv_iconst (v := 4) hx hb dX12_digest_216 (by decide) ?_
                          refine bi_ge (tgt := 244) hx hb rfl ti_4 dX12_digest_217 (by decide) (fun c_130 => ?_) (fun c_130 => ?_)
                          · skip
                            refine lv_bipush (v := 31) hx hb dX12_digest_244 (by decide) ?_
                            refine lv_iload_n hx hb dX12_digest_246 rfl (lv_at hl 1 rfl) ?_
                            refine lv_imul hx hb dX12_digest_247 ?_
                            refine lv_topi (fun x_142 ex_142 => ?_)
                            refine lv_aload_n hx hb dX12_digest_248 rfl (lv_at hl 3 rfl) ?_
                            refine mg_0 C hs hP ha0 hk0 wf_X12_8 dX12_digest_249 ?_
                            refine lv_iload_n hx hb dX12_digest_252 rfl (lv_at hl 2 rfl) ?_
                            refine lv_bipush (v := 9) hx hb dX12_digest_253 (by decide) ?_
                            refine lv_iadd hx hb dX12_digest_255 ?_
                            refine lv_topi (fun x_143 ex_143 => ?_)
                            have hi_hr_144 : zEq x_143.toInt (x_4.toInt + 9) := by
                              obtain ⟨f_143, l_143, u_143⟩ := z_add ex_143 rfl ti_9
                              try replace f_143 : x_143.toInt = x_4.toInt + 9 := by omega
                              clear l_143 u_143
                              show x_143.toInt = (x_4.toInt + 9)
                              omega
                            have hl_hr_144 : (9 : Int) ≤ 9 ∧ 9 ≤ (9 : Int) := by decide
                            have hid_hr_144 : (x_4.toInt + 9) = x_4.toInt + (9) := by simp only [Int.add_assoc, Int.add_sub_assoc]
                            have hr_144 := z_cell (lo := 9) (hi := 9) hbs_75 hi_hr_144 hid_hr_144 hl_hr_144 (by decide)
                            replace hid_hr_144 : zEq (x_4.toInt + 9) (x_4.toInt + (9)) := hid_hr_144
                            have hin_145 : vp_in x_143 (zn K (zr K a0 0)) := vp_in_iff.mpr (by rw [(hf_72.2.2 (by decide))]; exact hr_144.in)
                            refine mld_40 C hs hP hf_72.1 hf_72.2.1 hin_145 dX12_digest_256 ?_
                            have ep_146 : x_143.toNatClampNeg = (x_4.toInt + 9).toNat := z_posE hi_hr_144
                            rw [ep_146]
                            have tv_147 := rv_9 hT hr_144
                            rw [ep_146] at tv_147
                            refine lv_iadd hx hb dX12_digest_257 ?_
                            refine lv_topi (fun x_148 ex_148 => ?_)
                            exact zaS hQ hx hb hr hlk trivial dX12_digest_258
                          · skip
                            refine lv_bipush (v := 31) hx hb dX12_digest_220 (by decide) ?_
                            refine lv_iload_n hx hb dX12_digest_222 rfl (lv_at hl 1 rfl) ?_
                            refine lv_imul hx hb dX12_digest_223 ?_
                            refine lv_topi (fun x_149 ex_149 => ?_)
                            refine lv_aload_n hx hb dX12_digest_224 rfl (lv_at hl 3 rfl) ?_
                            refine mg_0 C hs hP ha0 hk0 wf_X12_8 dX12_digest_225 ?_
                            refine lv_iload_n hx hb dX12_digest_228 rfl (lv_at hl 2 rfl) ?_
                            refine lv_bipush (v := 39) hx hb dX12_digest_229 (by decide) ?_
                            refine lv_iadd hx hb dX12_digest_231 ?_
                            refine lv_topi (fun x_150 ex_150 => ?_)
                            refine lv_iload hx hb dX12_digest_232 (lv_at hl 0 rfl) ?_
                            refine lv_iadd hx hb dX12_digest_234 ?_
                            refine lv_topi (fun x_151 ex_151 => ?_)
                            have hi_hr_152 : zEq x_151.toInt (x_4.toInt + y_126.toInt + 39) := by
                              obtain ⟨f_150, l_150, u_150⟩ := z_add ex_150 rfl ti_39
                              try replace f_150 : x_150.toInt = x_4.toInt + 39 := by omega
                              clear l_150 u_150
                              have g_153 := z_rng y_126
                              obtain ⟨f_151, l_151, u_151⟩ := z_add ex_151 rfl rfl
                              try replace f_151 : x_151.toInt = x_150.toInt + y_126.toInt := by omega
                              clear l_151 u_151
                              show x_151.toInt = (x_4.toInt + y_126.toInt + 39)
                              omega
                            have hl_hr_152 : 39 ≤ y_126.toInt + 39 ∧ y_126.toInt + 39 ≤ 42 := by
                              have g_154 := z_rng y_126
                              omega
                            have hid_hr_152 : (x_4.toInt + y_126.toInt + 39) = x_4.toInt + (y_126.toInt + 39) := by simp only [Int.add_assoc, Int.add_sub_assoc]
                            have hr_152 := z_cell (lo := 39) (hi := 42) hbs_75 hi_hr_152 hid_hr_152 hl_hr_152 (by decide)
                            replace hid_hr_152 : zEq (x_4.toInt + y_126.toInt + 39) (x_4.toInt + (y_126.toInt + 39)) := hid_hr_152
                            have hin_155 : vp_in x_151 (zn K (zr K a0 0)) := vp_in_iff.mpr (by rw [(hf_72.2.2 (by decide))]; exact hr_152.in)
                            refine mld_40 C hs hP hf_72.1 hf_72.2.1 hin_155 dX12_digest_235 ?_
                            have ep_156 : x_151.toNatClampNeg = (x_4.toInt + y_126.toInt + 39).toNat := z_posE hi_hr_152
                            rw [ep_156]
                            refine lv_iadd hx hb dX12_digest_236 ?_
                            refine lv_topi (fun x_157 ex_157 => ?_)
                            refine lv_istore_n (lv' := [(3, .int x_157), (4, .int y_126), (2, .int x_4), (0, .ref a0), (1, .int x1)]) hx hb dX12_digest_237 rfl hl (by decide) rfl (fun ls hl => ?_)
                            obtain ⟨x_158, ex_158⟩ : ∃ y : Int32, y = y_126 + 1 := ⟨_, rfl⟩
                            refine lv_iinc (v := x_158) (lv' := [(4, .int x_158), (3, .int x_157), (2, .int x_4), (0, .ref a0), (1, .int x1)]) hx hb dX12_digest_238 hl (k := 1) rfl (by rw [ex_158]; rfl) (by decide) rfl (fun ls hl => ?_)
                            refine lv_goto (tgt := 214) hx hb dX12_digest_241 (by decide) ?_
                            have g_159 := z_rng y_126
                            obtain ⟨f_158, l_158, u_158⟩ := z_add ex_158 rfl ti_1
                            try replace f_158 : x_158.toInt = y_126.toInt + 1 := by omega
                            clear l_158 u_158
                            exact ih_128 x_158 x_157 _ (by omega) (by omega) (lv_sub hl [0, 1, 2, 3, 4] rfl)
                      have g_160 := z_rng y_101
                      exact L_214_128 _ 0 y_102 _ (Nat.lt_succ_self _) (by (try simp only [ti_0]); omega) (lv_sub hl [0, 1, 2, 3, 4] rfl)
                    · skip
                      refine lv_bipush (v := 31) hx hb dX12_digest_169 (by decide) ?_
                      refine lv_iload_n hx hb dX12_digest_171 rfl (lv_at hl 1 rfl) ?_
                      refine lv_imul hx hb dX12_digest_172 ?_
                      refine lv_topi (fun x_161 ex_161 => ?_)
                      refine lv_aload_n hx hb dX12_digest_173 rfl (lv_at hl 3 rfl) ?_
                      refine mg_0 C hs hP ha0 hk0 wf_X12_8 dX12_digest_174 ?_
                      refine lv_iload_n hx hb dX12_digest_177 rfl (lv_at hl 2 rfl) ?_
                      refine lv_bipush (v := 15) hx hb dX12_digest_178 (by decide) ?_
                      refine lv_iadd hx hb dX12_digest_180 ?_
                      refine lv_topi (fun x_162 ex_162 => ?_)
                      refine lv_iload hx hb dX12_digest_181 (lv_at hl 0 rfl) ?_
                      refine lv_iadd hx hb dX12_digest_183 ?_
                      refine lv_topi (fun x_163 ex_163 => ?_)
                      have hi_hr_164 : zEq x_163.toInt (x_4.toInt + y_101.toInt + 15) := by
                        obtain ⟨f_162, l_162, u_162⟩ := z_add ex_162 rfl ti_15
                        try replace f_162 : x_162.toInt = x_4.toInt + 15 := by omega
                        clear l_162 u_162
                        have g_165 := z_rng y_101
                        obtain ⟨f_163, l_163, u_163⟩ := z_add ex_163 rfl rfl
                        try replace f_163 : x_163.toInt = x_162.toInt + y_101.toInt := by omega
                        clear l_163 u_163
                        show x_163.toInt = (x_4.toInt + y_101.toInt + 15)
                        omega
                      have hl_hr_164 : 15 ≤ y_101.toInt + 15 ∧ y_101.toInt + 15 ≤ 16 := by
                        have g_166 := z_rng y_101
                        omega
                      have hid_hr_164 : (x_4.toInt + y_101.toInt + 15) = x_4.toInt + (y_101.toInt + 15) := by simp only [Int.add_assoc, Int.add_sub_assoc]
                      have hr_164 := z_cell (lo := 10) (hi := 19) hbs_75 hi_hr_164 hid_hr_164 hl_hr_164 (by decide)
                      replace hid_hr_164 : zEq (x_4.toInt + y_101.toInt + 15) (x_4.toInt + (y_101.toInt + 15)) := hid_hr_164
                      have hin_167 : vp_in x_163 (zn K (zr K a0 0)) := vp_in_iff.mpr (by rw [(hf_72.2.2 (by decide))]; exact hr_164.in)
                      refine mld_40 C hs hP hf_72.1 hf_72.2.1 hin_167 dX12_digest_184 ?_
                      have ep_168 : x_163.toNatClampNeg = (x_4.toInt + y_101.toInt + 15).toNat := z_posE hi_hr_164
                      rw [ep_168]
                      refine lv_iadd hx hb dX12_digest_185 ?_
                      refine lv_topi (fun x_169 ex_169 => ?_)
                      refine lv_istore_n (lv' := [(3, .int x_169), (4, .int y_101), (2, .int x_4), (0, .ref a0), (1, .int x1)]) hx hb dX12_digest_186 rfl hl (by decide) rfl (fun ls hl => ?_)
                      refine lv_bipush (v := 31) hx hb dX12_digest_187 (by decide) ?_
                      refine lv_iload_n hx hb dX12_digest_189 rfl (lv_at hl 0 rfl) ?_
                      refine lv_imul hx hb dX12_digest_190 ?_
                      refine lv_topi (fun x_170 ex_170 => ?_)
                      refine lv_aload_n hx hb dX12_digest_191 rfl (lv_at hl 3 rfl) ?_
                      refine mg_0 C hs hP ha0 hk0 wf_X12_8 dX12_digest_192 ?_
                      refine lv_iload_n hx hb dX12_digest_195 rfl (lv_at hl 2 rfl) ?_
                      refine lv_bipush (v := 17) hx hb dX12_digest_196 (by decide) ?_
                      refine lv_iadd hx hb dX12_digest_198 ?_
                      refine lv_topi (fun x_171 ex_171 => ?_)
                      refine lv_iload hx hb dX12_digest_199 (lv_at hl 1 rfl) ?_
                      refine lv_iadd hx hb dX12_digest_201 ?_
                      refine lv_topi (fun x_172 ex_172 => ?_)
                      have hi_hr_173 : zEq x_172.toInt (x_4.toInt + y_101.toInt + 17) := by
                        obtain ⟨f_171, l_171, u_171⟩ := z_add ex_171 rfl ti_17
                        try replace f_171 : x_171.toInt = x_4.toInt + 17 := by omega
                        clear l_171 u_171
                        have g_174 := z_rng y_101
                        obtain ⟨f_172, l_172, u_172⟩ := z_add ex_172 rfl rfl
                        try replace f_172 : x_172.toInt = x_171.toInt + y_101.toInt := by omega
                        clear l_172 u_172
                        show x_172.toInt = (x_4.toInt + y_101.toInt + 17)
                        omega
                      have hl_hr_173 : 17 ≤ y_101.toInt + 17 ∧ y_101.toInt + 17 ≤ 18 := by
                        have g_175 := z_rng y_101
                        omega
                      have hid_hr_173 : (x_4.toInt + y_101.toInt + 17) = x_4.toInt + (y_101.toInt + 17) := by simp only [Int.add_assoc, Int.add_sub_assoc]
                      have hr_173 := z_cell (lo := 10) (hi := 19) hbs_75 hi_hr_173 hid_hr_173 hl_hr_173 (by decide)
                      replace hid_hr_173 : zEq (x_4.toInt + y_101.toInt + 17) (x_4.toInt + (y_101.toInt + 17)) := hid_hr_173
                      have hin_176 : vp_in x_172 (zn K (zr K a0 0)) := vp_in_iff.mpr (by rw [(hf_72.2.2 (by decide))]; exact hr_173.in)
                      refine mld_40 C hs hP hf_72.1 hf_72.2.1 hin_176 dX12_digest_202 ?_
                      have ep_177 : x_172.toNatClampNeg = (x_4.toInt + y_101.toInt + 17).toNat := z_posE hi_hr_173
                      rw [ep_177]
                      refine lv_iadd hx hb dX12_digest_203 ?_
                      refine lv_topi (fun x_178 ex_178 => ?_)
                      refine lv_istore_n (lv' := [(3, .int x_178), (4, .int y_101), (2, .int x_4), (0, .ref a0), (1, .int x1)]) hx hb dX12_digest_204 rfl hl (by decide) rfl (fun ls hl => ?_)
                      obtain ⟨x_179, ex_179⟩ : ∃ y : Int32, y = y_101 + 1 := ⟨_, rfl⟩
                      refine lv_iinc (v := x_179) (lv' := [(4, .int x_179), (3, .int x_178), (2, .int x_4), (0, .ref a0), (1, .int x1)]) hx hb dX12_digest_205 hl (k := 1) rfl (by rw [ex_179]; rfl) (by decide) rfl (fun ls hl => ?_)
                      refine lv_goto (tgt := 163) hx hb dX12_digest_208 (by decide) ?_
                      have g_180 := z_rng y_101
                      obtain ⟨f_179, l_179, u_179⟩ := z_add ex_179 rfl ti_1
                      try replace f_179 : x_179.toInt = y_101.toInt + 1 := by omega
                      clear l_179 u_179
                      exact ih_103 x_179 x_178 _ (by omega) (by omega) (lv_sub hl [0, 1, 2, 3, 4] rfl)
                have g_181 := z_rng (A 40 (x_4.toInt + 26).toNat)
                have g_182 := z_rng y_80
                exact L_163_103 _ 0 y_81 _ (Nat.lt_succ_self _) (by (try simp only [ti_0]); omega) (lv_sub hl [0, 1, 2, 3, 4] rfl)
              · skip
                refine lv_bipush (v := 31) hx hb dX12_digest_136 (by decide) ?_
                refine lv_iload_n hx hb dX12_digest_138 rfl (lv_at hl 1 rfl) ?_
                refine lv_imul hx hb dX12_digest_139 ?_
                refine lv_topi (fun x_183 ex_183 => ?_)
                refine lv_aload_n hx hb dX12_digest_140 rfl (lv_at hl 3 rfl) ?_
                refine mg_0 C hs hP ha0 hk0 wf_X12_8 dX12_digest_141 ?_
                refine lv_iload_n hx hb dX12_digest_144 rfl (lv_at hl 2 rfl) ?_
                refine lv_bipush (v := 27) hx hb dX12_digest_145 (by decide) ?_
                refine lv_iadd hx hb dX12_digest_147 ?_
                refine lv_topi (fun x_184 ex_184 => ?_)
                refine lv_iload hx hb dX12_digest_148 (lv_at hl 0 rfl) ?_
                refine lv_iadd hx hb dX12_digest_150 ?_
                refine lv_topi (fun x_185 ex_185 => ?_)
                have hi_hr_186 : zEq x_185.toInt (x_4.toInt + y_80.toInt + 27) := by
                  obtain ⟨f_184, l_184, u_184⟩ := z_add ex_184 rfl ti_27
                  try replace f_184 : x_184.toInt = x_4.toInt + 27 := by omega
                  clear l_184 u_184
                  have g_187 := z_rng y_80
                  obtain ⟨f_185, l_185, u_185⟩ := z_add ex_185 rfl rfl
                  try replace f_185 : x_185.toInt = x_184.toInt + y_80.toInt := by omega
                  clear l_185 u_185
                  show x_185.toInt = (x_4.toInt + y_80.toInt + 27)
                  omega
                have hl_hr_186 : 27 ≤ y_80.toInt + 27 ∧ y_80.toInt + 27 ≤ 30 := by
                  have g_188 := z_rng y_80
                  omega
                have hid_hr_186 : (x_4.toInt + y_80.toInt + 27) = x_4.toInt + (y_80.toInt + 27) := by simp only [Int.add_assoc, Int.add_sub_assoc]
                have hr_186 := z_cell (lo := 27) (hi := 30) hbs_75 hi_hr_186 hid_hr_186 hl_hr_186 (by decide)
                replace hid_hr_186 : zEq (x_4.toInt + y_80.toInt + 27) (x_4.toInt + (y_80.toInt + 27)) := hid_hr_186
                have hin_189 : vp_in x_185 (zn K (zr K a0 0)) := vp_in_iff.mpr (by rw [(hf_72.2.2 (by decide))]; exact hr_186.in)
                refine mld_40 C hs hP hf_72.1 hf_72.2.1 hin_189 dX12_digest_151 ?_
                have ep_190 : x_185.toNatClampNeg = (x_4.toInt + y_80.toInt + 27).toNat := z_posE hi_hr_186
                rw [ep_190]
                have tv_191 := rv_27 hT hr_186
                rw [ep_190] at tv_191
                refine lv_iadd hx hb dX12_digest_152 ?_
                refine lv_topi (fun x_192 ex_192 => ?_)
                refine lv_istore_n (lv' := [(3, .int x_192), (4, .int y_80), (2, .int x_4), (0, .ref a0), (1, .int x1)]) hx hb dX12_digest_153 rfl hl (by decide) rfl (fun ls hl => ?_)
                obtain ⟨x_193, ex_193⟩ : ∃ y : Int32, y = y_80 + 1 := ⟨_, rfl⟩
                refine lv_iinc (v := x_193) (lv' := [(4, .int x_193), (3, .int x_192), (2, .int x_4), (0, .ref a0), (1, .int x1)]) hx hb dX12_digest_154 hl (k := 1) rfl (by rw [ex_193]; rfl) (by decide) rfl (fun ls hl => ?_)
                refine lv_goto (tgt := 122) hx hb dX12_digest_157 (by decide) ?_
                have g_194 := z_rng y_80
                obtain ⟨f_193, l_193, u_193⟩ := z_add ex_193 rfl ti_1
                try replace f_193 : x_193.toInt = y_80.toInt + 1 := by omega
                clear l_193 u_193
                have g_195 := z_rng (A 40 (x_4.toInt + 26).toNat)
                exact ih_82 x_193 x_192 _ (by omega) (by omega) (lv_sub hl [0, 1, 2, 3, 4] rfl)
          have g_196 := z_rng y_5
          exact L_122_82 _ 0 x_79 _ (Nat.lt_succ_self _) (by (try simp only [ti_0]); omega) (lv_sub hl [0, 1, 2, 3, 4] rfl)
        · skip
          refine lv_bipush (v := 31) hx hb dX12_digest_29 (by decide) ?_
          refine lv_iload_n hx hb dX12_digest_31 rfl (lv_at hl 1 rfl) ?_
          refine lv_imul hx hb dX12_digest_32 ?_
          refine lv_topi (fun x_197 ex_197 => ?_)
          refine lv_aload_n hx hb dX12_digest_33 rfl (lv_at hl 3 rfl) ?_
          refine mg_0 C hs hP ha0 hk0 wf_X12_8 dX12_digest_34 ?_
          have hf_198 := hO.r (j := 0) ha0 hk0 (rfl : zX 11 0 = some (40, 47730))
          refine lv_iload_n hx hb dX12_digest_37 rfl (lv_at hl 2 rfl) ?_
          refine lv_bipush (v := 22) hx hb dX12_digest_38 (by decide) ?_
          refine lv_iadd hx hb dX12_digest_40 ?_
          refine lv_topi (fun x_199 ex_199 => ?_)
          refine lv_iload hx hb dX12_digest_41 (lv_at hl 0 rfl) ?_
          refine lv_iadd hx hb dX12_digest_43 ?_
          refine lv_topi (fun x_200 ex_200 => ?_)
          obtain ⟨f_4, l_4, u_4⟩ := z_mul ex_4 ti_1290 rfl
          try replace f_4 : x_4.toInt = 1290 * x1.toInt := by omega
          clear l_4 u_4
          have hbs_202 : zRow x_4.toInt := zRow.of (t := x1.toInt) (by omega) (by omega)
          have hbl_hbs_202 := hbs_202.lin
          have hi_hr_201 : zEq x_200.toInt (x_4.toInt + y_5.toInt + 22) := by
            obtain ⟨f_199, l_199, u_199⟩ := z_add ex_199 rfl ti_22
            try replace f_199 : x_199.toInt = x_4.toInt + 22 := by omega
            clear l_199 u_199
            have g_203 := z_rng y_5
            obtain ⟨f_200, l_200, u_200⟩ := z_add ex_200 rfl rfl
            try replace f_200 : x_200.toInt = x_199.toInt + y_5.toInt := by omega
            clear l_200 u_200
            show x_200.toInt = (x_4.toInt + y_5.toInt + 22)
            omega
          have hl_hr_201 : 22 ≤ y_5.toInt + 22 ∧ y_5.toInt + 22 ≤ 25 := by
            have g_204 := z_rng y_5
            omega
          have hid_hr_201 : (x_4.toInt + y_5.toInt + 22) = x_4.toInt + (y_5.toInt + 22) := by simp only [Int.add_assoc, Int.add_sub_assoc]
          have hr_201 := z_cell (lo := 22) (hi := 25) hbs_202 hi_hr_201 hid_hr_201 hl_hr_201 (by decide)
          replace hid_hr_201 : zEq (x_4.toInt + y_5.toInt + 22) (x_4.toInt + (y_5.toInt + 22)) := hid_hr_201
          have hin_205 : vp_in x_200 (zn K (zr K a0 0)) := vp_in_iff.mpr (by rw [(hf_198.2.2 (by decide))]; exact hr_201.in)
          refine mld_40 C hs hP hf_198.1 hf_198.2.1 hin_205 dX12_digest_44 ?_
          have ep_206 : x_200.toNatClampNeg = (x_4.toInt + y_5.toInt + 22).toNat := z_posE hi_hr_201
          rw [ep_206]
          have tv_207 := rv_22 hT hr_201
          rw [ep_206] at tv_207
          refine lv_iadd hx hb dX12_digest_45 ?_
          refine lv_topi (fun x_208 ex_208 => ?_)
          refine lv_istore_n (lv' := [(3, .int x_208), (4, .int y_5), (2, .int x_4), (0, .ref a0), (1, .int x1)]) hx hb dX12_digest_46 rfl hl (by decide) rfl (fun ls hl => ?_)
          refine lv_iconst (v := 0) hx hb dX12_digest_47 (by decide) ?_
          refine lv_istore (lv' := [(5, .int 0), (3, .int x_208), (4, .int y_5), (2, .int x_4), (0, .ref a0), (1, .int x1)]) hx hb dX12_digest_48 hl (by decide) rfl (fun ls hl => ?_)
          have L_50_211 : ∀ (n_211 : Nat) (y_209 : Int32) (y_210 : Int32) (ls : Array Slot), (2147483648 - y_209.toInt).toNat < n_211 → 0 ≤ y_209.toInt → lv_has ls 6 [(5, .int y_209), (3, .int y_210), (4, .int y_5), (2, .int x_4), (0, .ref a0), (1, .int x1)] → W p l e (rmd 2) s m args below meth c s.heap [] 0 0 Q (F0 m 50 ls []) := by
            intro n_211
            induction n_211 with
            | zero => intro y_209 y_210 ls hm_211; exact absurd hm_211 (Nat.not_lt_zero _)
            | succ n_211 ih_211 =>
              intro y_209 y_210 ls hm_211 iv_212_0 hl
              refine lv_iload hx hb dX12_digest_50 (lv_at hl 0 rfl) ?_
              refine lv_aload_n hx hb dX12_digest_52 rfl (lv_at hl 4 rfl) ?_
              refine mg_0 C hs hP ha0 hk0 wf_X12_8 dX12_digest_53 ?_
              refine lv_iload_n hx hb dX12_digest_56 rfl (lv_at hl 3 rfl) ?_
              refine lv_bipush (v := 22) hx hb dX12_digest_57 (by decide) ?_
              refine lv_iadd hx hb dX12_digest_59 ?_
              refine lv_topi (fun x_213 ex_213 => ?_)
              refine lv_iload hx hb dX12_digest_60 (lv_at hl 2 rfl) ?_
              refine lv_iadd hx hb dX12_digest_62 ?_
              refine lv_topi (fun x_214 ex_214 => ?_)
              have hi_hr_215 : zEq x_214.toInt (x_4.toInt + y_5.toInt + 22) := by
                obtain ⟨f_213, l_213, u_213⟩ := z_add ex_213 rfl ti_22
                try replace f_213 : x_213.toInt = x_4.toInt + 22 := by omega
                clear l_213 u_213
                have g_216 := z_rng y_5
                obtain ⟨f_214, l_214, u_214⟩ := z_add ex_214 rfl rfl
                try replace f_214 : x_214.toInt = x_213.toInt + y_5.toInt := by omega
                clear l_214 u_214
                show x_214.toInt = (x_4.toInt + y_5.toInt + 22)
                omega
              have hl_hr_215 : 22 ≤ y_5.toInt + 22 ∧ y_5.toInt + 22 ≤ 25 := by
                have g_217 := z_rng y_5
                omega
              have hid_hr_215 : (x_4.toInt + y_5.toInt + 22) = x_4.toInt + (y_5.toInt + 22) := by simp only [Int.add_assoc, Int.add_sub_assoc]
              have hr_215 := z_cell (lo := 22) (hi := 25) hbs_202 hi_hr_215 hid_hr_215 hl_hr_215 (by decide)
              replace hid_hr_215 : zEq (x_4.toInt + y_5.toInt + 22) (x_4.toInt + (y_5.toInt + 22)) := hid_hr_215
              have hin_218 : vp_in x_214 (zn K (zr K a0 0)) := vp_in_iff.mpr (by rw [(hf_198.2.2 (by decide))]; exact hr_215.in)
              refine mld_40 C hs hP hf_198.1 hf_198.2.1 hin_218 dX12_digest_63 ?_
              have ep_219 : x_214.toNatClampNeg = (x_4.toInt + y_5.toInt + 22).toNat := z_posE hi_hr_215
              rw [ep_219]
              refine bi_ge (tgt := 98) hx hb rfl rfl dX12_digest_64 (by decide) (fun c_220 => ?_) (fun c_220 => ?_)
              · skip
                obtain ⟨x_237, ex_237⟩ : ∃ y : Int32, y = y_5 + 1 := ⟨_, rfl⟩
                refine lv_iinc (v := x_237) (lv' := [(4, .int x_237), (5, .int y_209), (3, .int y_210), (2, .int x_4), (0, .ref a0), (1, .int x1)]) hx hb dX12_digest_98 hl (k := 2) rfl (by rw [ex_237]; rfl) (by decide) rfl (fun ls hl => ?_)
                refine lv_goto (tgt := 23) hx hb dX12_digest_101 (by decide) ?_
                have g_238 := z_rng y_5
                obtain ⟨f_237, l_237, u_237⟩ := z_add ex_237 rfl ti_1
                try replace f_237 : x_237.toInt = y_5.toInt + 1 := by omega
                clear l_237 u_237
                have g_239 := z_rng (A 40 (x_4.toInt + y_5.toInt + 22).toNat)
                have g_240 := z_rng y_209
                exact ih_7 x_237 y_210 _ (by omega) (by omega) (lv_sub hl [0, 2, 3, 4, 5] rfl)
              · skip
                refine lv_bipush (v := 31) hx hb dX12_digest_67 (by decide) ?_
                refine lv_iload_n hx hb dX12_digest_69 rfl (lv_at hl 1 rfl) ?_
                refine lv_imul hx hb dX12_digest_70 ?_
                refine lv_topi (fun x_241 ex_241 => ?_)
                refine lv_aload_n hx hb dX12_digest_71 rfl (lv_at hl 4 rfl) ?_
                refine mg_0 C hs hP ha0 hk0 wf_X12_8 dX12_digest_72 ?_
                refine lv_iload_n hx hb dX12_digest_75 rfl (lv_at hl 3 rfl) ?_
                refine lv_sipush (v := 230) hx hb dX12_digest_76 (by decide) ?_
                refine lv_iadd hx hb dX12_digest_79 ?_
                refine lv_topi (fun x_242 ex_242 => ?_)
                refine lv_bipush (v := 60) hx hb dX12_digest_80 (by decide) ?_
                refine lv_iload hx hb dX12_digest_82 (lv_at hl 2 rfl) ?_
                refine lv_imul hx hb dX12_digest_84 ?_
                refine lv_topi (fun x_243 ex_243 => ?_)
                refine lv_iadd hx hb dX12_digest_85 ?_
                refine lv_topi (fun x_244 ex_244 => ?_)
                refine lv_iload hx hb dX12_digest_86 (lv_at hl 0 rfl) ?_
                refine lv_iadd hx hb dX12_digest_88 ?_
                refine lv_topi (fun x_245 ex_245 => ?_)
                have hi_hr_246 : zEq x_245.toInt (x_4.toInt + y_209.toInt + 60 * y_5.toInt + 230) := by
                  obtain ⟨f_242, l_242, u_242⟩ := z_add ex_242 rfl ti_230
                  try replace f_242 : x_242.toInt = x_4.toInt + 230 := by omega
                  clear l_242 u_242
                  have g_247 := z_rng y_5
                  obtain ⟨f_243, l_243, u_243⟩ := z_mul ex_243 ti_60 rfl
                  try replace f_243 : x_243.toInt = 60 * y_5.toInt := by omega
                  clear l_243 u_243
                  obtain ⟨f_244, l_244, u_244⟩ := z_add ex_244 rfl rfl
                  try replace f_244 : x_244.toInt = x_242.toInt + x_243.toInt := by omega
                  clear l_244 u_244
                  have g_248 := z_rng y_209
                  obtain ⟨f_245, l_245, u_245⟩ := z_add ex_245 rfl rfl
                  try replace f_245 : x_245.toInt = x_244.toInt + y_209.toInt := by omega
                  clear l_245 u_245
                  show x_245.toInt = (x_4.toInt + y_209.toInt + 60 * y_5.toInt + 230)
                  omega
                have hl_hr_246 : 230 ≤ y_209.toInt + 60 * y_5.toInt + 230 ∧ y_209.toInt + 60 * y_5.toInt + 230 ≤ 469 := by
                  have g_249 := z_rng y_5
                  have g_250 := z_rng y_209
                  omega
                have hid_hr_246 : (x_4.toInt + y_209.toInt + 60 * y_5.toInt + 230) = x_4.toInt + (y_209.toInt + 60 * y_5.toInt + 230) := by simp only [Int.add_assoc, Int.add_sub_assoc]
                have hr_246 := z_cell (lo := 170) (hi := 469) hbs_202 hi_hr_246 hid_hr_246 hl_hr_246 (by decide)
                replace hid_hr_246 : zEq (x_4.toInt + y_209.toInt + 60 * y_5.toInt + 230) (x_4.toInt + (y_209.toInt + 60 * y_5.toInt + 230)) := hid_hr_246
                have hin_251 : vp_in x_245 (zn K (zr K a0 0)) := vp_in_iff.mpr (by rw [(hf_198.2.2 (by decide))]; exact hr_246.in)
                refine mld_40 C hs hP hf_198.1 hf_198.2.1 hin_251 dX12_digest_89 ?_
                have ep_252 : x_245.toNatClampNeg = (x_4.toInt + y_209.toInt + 60 * y_5.toInt + 230).toNat := z_posE hi_hr_246
                rw [ep_252]
                have tv_253 := rv_170 hT hr_246
                rw [ep_252] at tv_253
                refine lv_iadd hx hb dX12_digest_90 ?_
                refine lv_topi (fun x_254 ex_254 => ?_)
                refine lv_istore_n (lv' := [(3, .int x_254), (5, .int y_209), (4, .int y_5), (2, .int x_4), (0, .ref a0), (1, .int x1)]) hx hb dX12_digest_91 rfl hl (by decide) rfl (fun ls hl => ?_)
                obtain ⟨x_255, ex_255⟩ : ∃ y : Int32, y = y_209 + 1 := ⟨_, rfl⟩
                refine lv_iinc (v := x_255) (lv' := [(5, .int x_255), (3, .int x_254), (4, .int y_5), (2, .int x_4), (0, .ref a0), (1, .int x1)]) hx hb dX12_digest_92 hl (k := 1) rfl (by rw [ex_255]; rfl) (by decide) rfl (fun ls hl => ?_)
                refine lv_goto (tgt := 50) hx hb dX12_digest_95 (by decide) ?_
                have g_256 := z_rng y_209
                obtain ⟨f_255, l_255, u_255⟩ := z_add ex_255 rfl ti_1
                try replace f_255 : x_255.toInt = y_209.toInt + 1 := by omega
                clear l_255 u_255
                have g_257 := z_rng (A 40 (x_4.toInt + y_5.toInt + 22).toNat)
                exact ih_211 x_255 x_254 _ (by omega) (by omega) (lv_sub hl [0, 1, 2, 3, 4, 5] rfl)
          have g_258 := z_rng y_5
          exact L_50_211 _ 0 x_208 _ (Nat.lt_succ_self _) (by (try simp only [ti_0]); omega) (lv_sub hl [0, 1, 2, 3, 4, 5] rfl)
    have g_259 := z_rng x_1
    exact L_23_7 _ 0 17 _ (Nat.lt_succ_self _) (by (try simp only [ti_0, ti_17]); omega) (lv_sub hl [0, 1, 2, 3, 4] rfl)
  · skip
    clear pp_1
    refine lv_bipush (v := (-2)) hx hb dX12_digest_8 (by decide) ?_
    exact zaS hQ hx hb hr hlk trivial dX12_digest_10
set_option maxHeartbeats 4000000 in
set_option maxRecDepth 100000 in
theorem c_X12_trace (l : Launch) (D : va_G) (K : zK) (hM : mK K) (f : Nat → Int32) (A : Nat → Nat → Int32) (hT : mT f A) (a0 : Nat) (ha0 : a0 ∈ zl K) (hk0 : zk K a0 = 11) (x1 : Int32) : Met l yX12_trace (zc yX12_trace cX12_trace 3 (some .int)) (rmd 1) (va_Pc [.ref a0, .int x1] (zB D K (mV K f A))) (vp_Si (fun r => True)) 0 0 (fun _ => False) := by
  refine zin (by decide) (Nat.le_of_ble_eq_true rfl) ?_
  intro p e s m args below meth c ls Q hQ C hr hlk hP hs hl
  have C : CallFix p m c cX12_trace 3 s args zw RX12 := C
  obtain ⟨hx, hb, hml, hown, hts⟩ := id C
  have hO := hM.1
  have hS : va_S (zA K) s.heap s.heap [] := va_S.rf
  have hl : lv_has ls 3 [(0, .ref a0), (1, .int x1)] := hl
  refine lv_aload_n hx hb dX12_trace_0 rfl (lv_at hl 0 rfl) ?_
  refine mg_11 C hs hP ha0 hk0 wf_X12_82 dX12_trace_1 ?_
  have tf_1 : 0 ≤ (f 11).toInt := hT.1 11
  refine lv_bipush (v := 60) hx hb dX12_trace_4 (by decide) ?_
  refine zcS (zrS (As := [.int (f 11), .int 60]) (rest := []) C hs hP hS (c_X12_least l D K hM f A hT (f 11) 60) m_X12_least wm_X12_250 ⟨by decide, by decide⟩ hl.1 (Nat.le_of_ble_eq_true rfl) dX12_trace_6) (fun x_2 p_2 => ?_)
  have pp_2 : x_2.toInt ≤ (f 11).toInt ∧ x_2.toInt ≤ (60 : Int32).toInt ∧ (x_2.toInt = (f 11).toInt ∨ x_2.toInt = (60 : Int32).toInt) := p_2
  try simp only [ti_60] at pp_2
  have g_3 := z_rng (f 11)
  refine lv_istore_n (lv' := [(2, .int x_2), (0, .ref a0), (1, .int x1)]) hx hb dX12_trace_9 rfl hl (by decide) rfl (fun ls hl => ?_)
  refine lv_iload_n hx hb dX12_trace_10 rfl (lv_at hl 2 rfl) ?_
  refine lv_iconst (v := 0) hx hb dX12_trace_11 (by decide) ?_
  refine lv_iload_n hx hb dX12_trace_12 rfl (lv_at hl 0 rfl) ?_
  refine lv_iconst (v := 1) hx hb dX12_trace_13 (by decide) ?_
  refine lv_isub hx hb dX12_trace_14 ?_
  refine lv_topi (fun x_4 ex_4 => ?_)
  refine zcS (zrS (As := [.int x1, .int 0, .int x_4]) (rest := []) C hs hP hS (c_X12_in l D K hM f A hT x1 0 x_4) m_X12_in wm_X12_91 ⟨by decide, by decide⟩ hl.1 (Nat.le_of_ble_eq_true rfl) dX12_trace_15) (fun x_5 p_5 => ?_)
  have pp_5 : (x_5.toInt ≠ 0 → (0 : Int32).toInt ≤ x1.toInt ∧ x1.toInt ≤ x_4.toInt) ∧ (x_5.toInt = 0 → x1.toInt < (0 : Int32).toInt ∨ x_4.toInt < x1.toInt) := p_5.2
  try simp only [ti_0] at pp_5
  have g_6 := z_rng x1
  have g_7 := z_rng x_2
  obtain ⟨f_4, l_4, u_4⟩ := z_sub ex_4 rfl ti_1
  try replace f_4 : x_4.toInt = x_2.toInt - 1 := by omega
  clear l_4 u_4
  refine bz_eq (tgt := 40) hx hb rfl dX12_trace_18 (by decide) (fun c_8 => ?_) (fun c_8 => ?_)
  · skip
    replace pp_5 := pp_5.2 c_8
    refine lv_iconst (v := (-1)) hx hb dX12_trace_40 (by decide) ?_
    exact zaS hQ hx hb hr hlk trivial dX12_trace_41
  · skip
    replace pp_5 := pp_5.1 c_8
    refine lv_aload_n hx hb dX12_trace_21 rfl (lv_at hl 1 rfl) ?_
    refine mg_10 C hs hP ha0 hk0 wf_X12_33 dX12_trace_22 ?_
    have hf_9 := hO.r (j := 10) ha0 hk0 (rfl : zX 11 10 = some (50, 60))
    refine lv_aload_n hx hb dX12_trace_25 rfl (lv_at hl 1 rfl) ?_
    refine mg_11 C hs hP ha0 hk0 wf_X12_82 dX12_trace_26 ?_
    refine lv_iload_n hx hb dX12_trace_29 rfl (lv_at hl 0 rfl) ?_
    refine lv_isub hx hb dX12_trace_30 ?_
    refine lv_topi (fun x_10 ex_10 => ?_)
    refine lv_iload_n hx hb dX12_trace_31 rfl (lv_at hl 2 rfl) ?_
    refine lv_iadd hx hb dX12_trace_32 ?_
    refine lv_topi (fun x_11 ex_11 => ?_)
    refine lv_bipush (v := 60) hx hb dX12_trace_33 (by decide) ?_
    refine lv_irem hx hb dX12_trace_35 (by decide) ?_
    refine lv_topi (fun x_12 ex_12 => ?_)
    obtain ⟨f_10, l_10, u_10⟩ := z_sub ex_10 rfl rfl
    try replace f_10 : x_10.toInt = (f 11).toInt - x_2.toInt := by omega
    clear l_10 u_10
    obtain ⟨f_11, l_11, u_11⟩ := z_add ex_11 rfl rfl
    try replace f_11 : x_11.toInt = x_10.toInt + x1.toInt := by omega
    clear l_11 u_11
    have f_12 := z_rem ex_12 rfl ti_60 (by decide)
    have hin_13 : vp_in x_12 (zn K (zr K a0 10)) := vp_in_iff.mpr (by rw [(hf_9.2.2 (by decide))]; refine ⟨?_, ?_⟩ <;> omega)
    refine mld_50 C hs hP hf_9.1 hf_9.2.1 hin_13 dX12_trace_36 ?_
    refine lv_goto (tgt := 41) hx hb dX12_trace_37 (by decide) ?_
    exact zaS hQ hx hb hr hlk trivial dX12_trace_41
set_option maxHeartbeats 4000000 in
set_option maxRecDepth 100000 in
theorem c_X12_count (l : Launch) (D : va_G) (K : zK) (hM : mK K) (f : Nat → Int32) (A : Nat → Nat → Int32) (hT : mT f A) (a0 : Nat) (ha0 : a0 ∈ zl K) (hk0 : zk K a0 = 11) (x1 : Int32) : Met l yX12_count (zc yX12_count cX12_count 5 (some .int)) (rmd 2) (va_Pc [.ref a0, .int x1] (zB D K (mV K f A))) (vp_Si (fun r => True)) 0 0 (fun _ => False) := by
  refine zin (by decide) (Nat.le_of_ble_eq_true rfl) ?_
  intro p e s m args below meth c ls Q hQ C hr hlk hP hs hl
  have C : CallFix p m c cX12_count 5 s args zw RX12 := C
  obtain ⟨hx, hb, hml, hown, hts⟩ := id C
  have hO := hM.1
  have hS : va_S (zA K) s.heap s.heap [] := va_S.rf
  have hl : lv_has ls 5 [(0, .ref a0), (1, .int x1)] := hl
  refine lv_iconst (v := 0) hx hb dX12_count_0 (by decide) ?_
  refine lv_istore_n (lv' := [(2, .int 0), (0, .ref a0), (1, .int x1)]) hx hb dX12_count_1 rfl hl (by decide) rfl (fun ls hl => ?_)
  refine lv_iconst (v := 0) hx hb dX12_count_2 (by decide) ?_
  refine lv_istore_n (lv' := [(3, .int 0), (2, .int 0), (0, .ref a0), (1, .int x1)]) hx hb dX12_count_3 rfl hl (by decide) rfl (fun ls hl => ?_)
  have L_4_3 : ∀ (n_3 : Nat) (y_1 : Int32) (y_2 : Int32) (ls : Array Slot), (2147483648 - y_1.toInt).toNat < n_3 → 0 ≤ y_1.toInt → lv_has ls 5 [(3, .int y_1), (2, .int y_2), (0, .ref a0), (1, .int x1)] → W p l e (rmd 2) s m args below meth c s.heap [] 0 0 Q (F0 m 4 ls []) := by
    intro n_3
    induction n_3 with
    | zero => intro y_1 y_2 ls hm_3; exact absurd hm_3 (Nat.not_lt_zero _)
    | succ n_3 ih_3 =>
      intro y_1 y_2 ls hm_3 iv_4_0 hl
      refine lv_iload_n hx hb dX12_count_4 rfl (lv_at hl 0 rfl) ?_
      refine lv_iconst (v := 4) hx hb dX12_count_5 (by decide) ?_
      refine bi_ge (tgt := 32) hx hb rfl ti_4 dX12_count_6 (by decide) (fun c_5 => ?_) (fun c_5 => ?_)
      · skip
        refine lv_iconst (v := 0) hx hb dX12_count_32 (by decide) ?_
        refine lv_istore_n (lv' := [(3, .int 0), (2, .int y_2), (0, .ref a0), (1, .int x1)]) hx hb dX12_count_33 rfl hl (by decide) rfl (fun ls hl => ?_)
        refine lv_iconst (v := 0) hx hb dX12_count_34 (by decide) ?_
        refine lv_istore (lv' := [(4, .int 0), (3, .int 0), (2, .int y_2), (0, .ref a0), (1, .int x1)]) hx hb dX12_count_35 hl (by decide) rfl (fun ls hl => ?_)
        have L_37_18 : ∀ (n_18 : Nat) (y_16 : Int32) (y_17 : Int32) (ls : Array Slot), (2147483648 - y_16.toInt).toNat < n_18 → 0 ≤ y_16.toInt → lv_has ls 5 [(4, .int y_16), (3, .int y_17), (2, .int y_2), (0, .ref a0), (1, .int x1)] → W p l e (rmd 2) s m args below meth c s.heap [] 0 0 Q (F0 m 37 ls []) := by
          intro n_18
          induction n_18 with
          | zero => intro y_16 y_17 ls hm_18; exact absurd hm_18 (Nat.not_lt_zero _)
          | succ n_18 ih_18 =>
            intro y_16 y_17 ls hm_18 iv_19_0 hl
            refine lv_iload hx hb dX12_count_37 (lv_at hl 0 rfl) ?_
            refine lv_bipush (v := 6) hx hb dX12_count_39 (by decide) ?_
            refine bi_ge (tgt := 67) hx hb rfl ti_6 dX12_count_41 (by decide) (fun c_20 => ?_) (fun c_20 => ?_)
            · skip
              refine lv_iload_n hx hb dX12_count_67 rfl (lv_at hl 4 rfl) ?_
              rcases Classical.em (x1.toInt = 0) with c_29 | c_29
              · refine lv_tableIn (tgt := 104) hx hb dX12_count_68 (by omega) (by omega) (by rw [c_29]; rfl) (by decide) ?_
                refine lv_aload_n hx hb dX12_count_104 rfl (lv_at hl 3 rfl) ?_
                refine mg_7 C hs hP ha0 hk0 wf_X12_88 dX12_count_105 ?_
                exact zaS hQ hx hb hr hlk trivial dX12_count_108
              · have d_30 := c_29
                rcases Classical.em (x1.toInt = 1) with c_31 | c_31
                · refine lv_tableIn (tgt := 109) hx hb dX12_count_68 (by omega) (by omega) (by rw [c_31]; rfl) (by decide) ?_
                  refine lv_aload_n hx hb dX12_count_109 rfl (lv_at hl 3 rfl) ?_
                  refine mg_9 C hs hP ha0 hk0 wf_X12_85 dX12_count_110 ?_
                  have tf_32 : 0 ≤ (f 9).toInt := hT.1 9
                  exact zaS hQ hx hb hr hlk trivial dX12_count_113
                · have d_33 := c_31
                  rcases Classical.em (x1.toInt = 2) with c_34 | c_34
                  · refine lv_tableIn (tgt := 114) hx hb dX12_count_68 (by omega) (by omega) (by rw [c_34]; rfl) (by decide) ?_
                    refine lv_aload_n hx hb dX12_count_114 rfl (lv_at hl 3 rfl) ?_
                    refine mg_6 C hs hP ha0 hk0 wf_X12_175 dX12_count_115 ?_
                    exact zaS hQ hx hb hr hlk trivial dX12_count_118
                  · have d_35 := c_34
                    rcases Classical.em (x1.toInt = 3) with c_36 | c_36
                    · refine lv_tableIn (tgt := 119) hx hb dX12_count_68 (by omega) (by omega) (by rw [c_36]; rfl) (by decide) ?_
                      refine lv_iload_n hx hb dX12_count_119 rfl (lv_at hl 2 rfl) ?_
                      exact zaS hQ hx hb hr hlk trivial dX12_count_120
                    · have d_37 := c_36
                      rcases Classical.em (x1.toInt = 4) with c_38 | c_38
                      · refine lv_tableIn (tgt := 121) hx hb dX12_count_68 (by omega) (by omega) (by rw [c_38]; rfl) (by decide) ?_
                        refine lv_iload_n hx hb dX12_count_121 rfl (lv_at hl 1 rfl) ?_
                        exact zaS hQ hx hb hr hlk trivial dX12_count_122
                      · have d_39 := c_38
                        refine lv_tableOut (tgt := 123) hx hb dX12_count_68 (by omega) (by decide) ?_
                        refine lv_bipush (v := (-3)) hx hb dX12_count_123 (by decide) ?_
                        exact zaS hQ hx hb hr hlk trivial dX12_count_125
            · skip
              refine lv_iload_n hx hb dX12_count_44 rfl (lv_at hl 1 rfl) ?_
              refine lv_aload_n hx hb dX12_count_45 rfl (lv_at hl 3 rfl) ?_
              refine lv_iload hx hb dX12_count_46 (lv_at hl 0 rfl) ?_
              refine zcS (zrV (As := [.int y_16]) (b := a0) (rest := [.int y_17]) C hs hP hS (c_X12_isGame l D K hM f A hT a0 ha0 hk0 y_16) m_X12_isGame wm_X12_99 (zrecv hs hP ha0 (zF_11 hk0) rfl) ⟨by decide, by decide⟩ hl.1 (Nat.le_of_ble_eq_true rfl) dX12_count_48) (fun x_41 p_41 => ?_)
              have pp_41 : (x_41.toInt ≠ 0 → 0 ≤ y_16.toInt ∧ y_16.toInt ≤ 5) := p_41.2
              have g_42 := z_rng y_16
              have J_59_45 : ∀ (y_44 : Int32) (ls : Array Slot), (y_44 = 0 ∨ y_44 = 1) → lv_has ls 5 [(0, .ref a0), (1, .int x1), (2, .int y_2), (3, .int y_17), (4, .int y_16)] → W p l e (rmd 2) s m args below meth c s.heap [] 0 0 Q (F0 m 59 ls [.int y_44, .int y_17]) := by
                intro y_44 ls hb_y_44 hl
                refine lv_iadd hx hb dX12_count_59 ?_
                refine lv_topi (fun x_47 ex_47 => ?_)
                refine lv_istore_n (lv' := [(3, .int x_47), (0, .ref a0), (1, .int x1), (2, .int y_2), (4, .int y_16)]) hx hb dX12_count_60 rfl hl (by decide) rfl (fun ls hl => ?_)
                obtain ⟨x_48, ex_48⟩ : ∃ y : Int32, y = y_16 + 1 := ⟨_, rfl⟩
                refine lv_iinc (v := x_48) (lv' := [(4, .int x_48), (3, .int x_47), (0, .ref a0), (1, .int x1), (2, .int y_2)]) hx hb dX12_count_61 hl (k := 4) rfl (by rw [ex_48]; rfl) (by decide) rfl (fun ls hl => ?_)
                refine lv_goto (tgt := 37) hx hb dX12_count_64 (by decide) ?_
                obtain ⟨f_48, l_48, u_48⟩ := z_add ex_48 rfl ti_1
                try replace f_48 : x_48.toInt = y_16.toInt + 1 := by omega
                clear l_48 u_48
                exact ih_18 x_48 x_47 _ (by omega) (by omega) (lv_sub hl [0, 1, 4, 2, 3] rfl)
              refine bz_eq (tgt := 58) hx hb rfl dX12_count_51 (by decide) (fun c_43 => ?_) (fun c_43 => ?_)
              · skip
                clear pp_41
                refine lv_iconst (v := 0) hx hb dX12_count_58 (by decide) ?_
                exact J_59_45 0 _ (Or.inl rfl) (lv_sub hl [3, 4, 2, 1, 0] rfl)
              · skip
                replace pp_41 := pp_41 c_43
                refine lv_iconst (v := 1) hx hb dX12_count_54 (by decide) ?_
                refine lv_goto (tgt := 59) hx hb dX12_count_55 (by decide) ?_
                exact J_59_45 1 _ (Or.inr rfl) (lv_sub hl [3, 4, 2, 1, 0] rfl)
        have g_49 := z_rng y_1
        exact L_37_18 _ 0 0 _ (Nat.lt_succ_self _) (by (try simp only [ti_0]); omega) (lv_sub hl [0, 1, 2, 3, 4] rfl)
      · skip
        refine lv_iload_n hx hb dX12_count_9 rfl (lv_at hl 1 rfl) ?_
        refine lv_aload_n hx hb dX12_count_10 rfl (lv_at hl 2 rfl) ?_
        refine mg_1 C hs hP ha0 hk0 wf_X12_14 dX12_count_11 ?_
        have hf_50 := hO.r (j := 1) ha0 hk0 (rfl : zX 11 1 = some (41, 4))
        refine lv_iload_n hx hb dX12_count_14 rfl (lv_at hl 0 rfl) ?_
        have g_52 := z_rng y_1
        have hin_51 : vp_in y_1 (zn K (zr K a0 1)) := vp_in_iff.mpr (by rw [(hf_50.2.2 (by decide))]; refine ⟨?_, ?_⟩ <;> omega)
        refine mld_41 C hs hP hf_50.1 hf_50.2.1 hin_51 dX12_count_15 ?_
        have tv_53 := ra_41 hT (vp_in_iff.mp hin_51).1 (by have h7 := (vp_in_iff.mp hin_51).2; rw [(hf_50.2.2 (by decide))] at h7; exact h7)
        have J_24_56 : ∀ (y_55 : Int32) (ls : Array Slot), (y_55 = 0 ∨ y_55 = 1) → lv_has ls 5 [(0, .ref a0), (1, .int x1), (2, .int y_2), (3, .int y_1)] → W p l e (rmd 2) s m args below meth c s.heap [] 0 0 Q (F0 m 24 ls [.int y_55, .int y_2]) := by
          intro y_55 ls hb_y_55 hl
          refine lv_iadd hx hb dX12_count_24 ?_
          refine lv_topi (fun x_58 ex_58 => ?_)
          refine lv_istore_n (lv' := [(2, .int x_58), (0, .ref a0), (1, .int x1), (3, .int y_1)]) hx hb dX12_count_25 rfl hl (by decide) rfl (fun ls hl => ?_)
          obtain ⟨x_59, ex_59⟩ : ∃ y : Int32, y = y_1 + 1 := ⟨_, rfl⟩
          refine lv_iinc (v := x_59) (lv' := [(3, .int x_59), (2, .int x_58), (0, .ref a0), (1, .int x1)]) hx hb dX12_count_26 hl (k := 3) rfl (by rw [ex_59]; rfl) (by decide) rfl (fun ls hl => ?_)
          refine lv_goto (tgt := 4) hx hb dX12_count_29 (by decide) ?_
          obtain ⟨f_59, l_59, u_59⟩ := z_add ex_59 rfl ti_1
          try replace f_59 : x_59.toInt = y_1.toInt + 1 := by omega
          clear l_59 u_59
          exact ih_3 x_59 x_58 _ (by omega) (by omega) (lv_sub hl [0, 1, 2, 3] rfl)
        refine bz_eq (tgt := 23) hx hb rfl dX12_count_16 (by decide) (fun c_54 => ?_) (fun c_54 => ?_)
        · skip
          refine lv_iconst (v := 0) hx hb dX12_count_23 (by decide) ?_
          exact J_24_56 0 _ (Or.inl rfl) (lv_sub hl [2, 3, 1, 0] rfl)
        · skip
          refine lv_iconst (v := 1) hx hb dX12_count_19 (by decide) ?_
          refine lv_goto (tgt := 24) hx hb dX12_count_20 (by decide) ?_
          exact J_24_56 1 _ (Or.inr rfl) (lv_sub hl [2, 3, 1, 0] rfl)
  exact L_4_3 _ 0 0 _ (Nat.lt_succ_self _) (by (try simp only [ti_0]); omega) (lv_sub hl [0, 1, 2, 3] rfl)
set_option maxHeartbeats 4000000 in
set_option maxRecDepth 100000 in
theorem c_X12_kindOf (l : Launch) (D : va_G) (K : zK) (hM : mK K) (f : Nat → Int32) (A : Nat → Nat → Int32) (hT : mT f A) (a0 : Nat) (ha0 : a0 ∈ zl K) (hk0 : zk K a0 = 11) (x1 : Int32) : Met l yX12_kindOf (zc yX12_kindOf cX12_kindOf 2 (some .int)) (rmd 2) (va_Pc [.ref a0, .int x1] (zB D K (mV K f A))) (vp_Si (fun r => True)) 0 0 (fun _ => False) := by
  refine zin (by decide) (Nat.le_of_ble_eq_true rfl) ?_
  intro p e s m args below meth c ls Q hQ C hr hlk hP hs hl
  have C : CallFix p m c cX12_kindOf 2 s args zw RX12 := C
  obtain ⟨hx, hb, hml, hown, hts⟩ := id C
  have hO := hM.1
  have hS : va_S (zA K) s.heap s.heap [] := va_S.rf
  have hl : lv_has ls 2 [(0, .ref a0), (1, .int x1)] := hl
  refine lv_aload_n hx hb dX12_kindOf_0 rfl (lv_at hl 0 rfl) ?_
  refine lv_iload_n hx hb dX12_kindOf_1 rfl (lv_at hl 1 rfl) ?_
  refine zcS (zrV (As := [.int x1]) (b := a0) (rest := []) C hs hP hS (c_X12_isGame l D K hM f A hT a0 ha0 hk0 x1) m_X12_isGame wm_X12_99 (zrecv hs hP ha0 (zF_11 hk0) rfl) ⟨by decide, by decide⟩ hl.1 (Nat.le_of_ble_eq_true rfl) dX12_kindOf_2) (fun x_1 p_1 => ?_)
  have pp_1 : (x_1.toInt ≠ 0 → 0 ≤ x1.toInt ∧ x1.toInt ≤ 5) := p_1.2
  have g_2 := z_rng x1
  refine bz_eq (tgt := 17) hx hb rfl dX12_kindOf_5 (by decide) (fun c_3 => ?_) (fun c_3 => ?_)
  · skip
    clear pp_1
    refine lv_bipush (v := (-2)) hx hb dX12_kindOf_17 (by decide) ?_
    exact zaS hQ hx hb hr hlk trivial dX12_kindOf_19
  · skip
    replace pp_1 := pp_1 c_3
    refine lv_aload_n hx hb dX12_kindOf_8 rfl (lv_at hl 0 rfl) ?_
    refine mg_3 C hs hP ha0 hk0 wf_X12_21 dX12_kindOf_9 ?_
    have hf_4 := hO.r (j := 3) ha0 hk0 (rfl : zX 11 3 = some (43, 6))
    refine lv_iload_n hx hb dX12_kindOf_12 rfl (lv_at hl 1 rfl) ?_
    have hin_5 : vp_in x1 (zn K (zr K a0 3)) := vp_in_iff.mpr (by rw [(hf_4.2.2 (by decide))]; refine ⟨?_, ?_⟩ <;> omega)
    refine mld_43 C hs hP hf_4.1 hf_4.2.1 hin_5 dX12_kindOf_13 ?_
    refine lv_goto (tgt := 19) hx hb dX12_kindOf_14 (by decide) ?_
    exact zaS hQ hx hb hr hlk trivial dX12_kindOf_19
set_option maxHeartbeats 4000000 in
set_option maxRecDepth 100000 in
theorem c_X12_trick (l : Launch) (D : va_G) (K : zK) (hM : mK K) (f : Nat → Int32) (A : Nat → Nat → Int32) (hT : mT f A) (a0 : Nat) (ha0 : a0 ∈ zl K) (hk0 : zk K a0 = 11) (x1 : Int32) (x2 : Int32) : Met l yX12_trick (zc yX12_trick cX12_trick 3 (some .int)) (rmd 2) (va_Pc [.ref a0, .int x1, .int x2] (zB D K (mV K f A))) (vp_Si (fun r => True)) 0 0 (fun _ => False) := by
  refine zin (by decide) (Nat.le_of_ble_eq_true rfl) ?_
  intro p e s m args below meth c ls Q hQ C hr hlk hP hs hl
  have C : CallFix p m c cX12_trick 3 s args zw RX12 := C
  obtain ⟨hx, hb, hml, hown, hts⟩ := id C
  have hO := hM.1
  have hS : va_S (zA K) s.heap s.heap [] := va_S.rf
  have hl : lv_has ls 3 [(0, .ref a0), (1, .int x1), (2, .int x2)] := hl
  refine lv_aload_n hx hb dX12_trick_0 rfl (lv_at hl 0 rfl) ?_
  refine lv_iload_n hx hb dX12_trick_1 rfl (lv_at hl 1 rfl) ?_
  refine zcS (zrV (As := [.int x1]) (b := a0) (rest := []) C hs hP hS (c_X12_isTable l D K hM f A hT a0 ha0 hk0 x1) m_X12_isTable wm_X12_107 (zrecv hs hP ha0 (zF_11 hk0) rfl) ⟨by decide, by decide⟩ hl.1 (Nat.le_of_ble_eq_true rfl) dX12_trick_2) (fun x_1 p_1 => ?_)
  have pp_1 : (x_1.toInt ≠ 0 → 0 ≤ x1.toInt ∧ x1.toInt ≤ 3) := p_1.2
  have g_2 := z_rng x1
  refine bz_ne (tgt := 11) hx hb rfl dX12_trick_5 (by decide) (fun c_3 => ?_) (fun c_3 => ?_)
  · skip
    replace pp_1 := pp_1 c_3
    refine lv_iload_n hx hb dX12_trick_11 rfl (lv_at hl 2 rfl) ?_
    refine lv_iconst (v := 0) hx hb dX12_trick_12 (by decide) ?_
    refine lv_aload_n hx hb dX12_trick_13 rfl (lv_at hl 0 rfl) ?_
    refine mg_0 C hs hP ha0 hk0 wf_X12_8 dX12_trick_14 ?_
    have hf_4 := hO.r (j := 0) ha0 hk0 (rfl : zX 11 0 = some (40, 47730))
    refine lv_sipush (v := 1290) hx hb dX12_trick_17 (by decide) ?_
    refine lv_iload_n hx hb dX12_trick_20 rfl (lv_at hl 1 rfl) ?_
    refine lv_imul hx hb dX12_trick_21 ?_
    refine lv_topi (fun x_5 ex_5 => ?_)
    refine lv_bipush (v := 26) hx hb dX12_trick_22 (by decide) ?_
    refine lv_iadd hx hb dX12_trick_24 ?_
    refine lv_topi (fun x_6 ex_6 => ?_)
    obtain ⟨f_5, l_5, u_5⟩ := z_mul ex_5 ti_1290 rfl
    try replace f_5 : x_5.toInt = 1290 * x1.toInt := by omega
    clear l_5 u_5
    have hbs_8 : zRow x_5.toInt := zRow.of (t := x1.toInt) (by omega) (by omega)
    have hbl_hbs_8 := hbs_8.lin
    have hi_hr_7 : zEq x_6.toInt (x_5.toInt + 26) := by
      obtain ⟨f_6, l_6, u_6⟩ := z_add ex_6 rfl ti_26
      try replace f_6 : x_6.toInt = x_5.toInt + 26 := by omega
      clear l_6 u_6
      show x_6.toInt = (x_5.toInt + 26)
      omega
    have hl_hr_7 : (26 : Int) ≤ 26 ∧ 26 ≤ (26 : Int) := by decide
    have hid_hr_7 : (x_5.toInt + 26) = x_5.toInt + (26) := by simp only [Int.add_assoc, Int.add_sub_assoc]
    have hr_7 := z_cell (lo := 26) (hi := 26) hbs_8 hi_hr_7 hid_hr_7 hl_hr_7 (by decide)
    replace hid_hr_7 : zEq (x_5.toInt + 26) (x_5.toInt + (26)) := hid_hr_7
    have hin_9 : vp_in x_6 (zn K (zr K a0 0)) := vp_in_iff.mpr (by rw [(hf_4.2.2 (by decide))]; exact hr_7.in)
    refine mld_40 C hs hP hf_4.1 hf_4.2.1 hin_9 dX12_trick_25 ?_
    have ep_10 : x_6.toNatClampNeg = (x_5.toInt + 26).toNat := z_posE hi_hr_7
    rw [ep_10]
    have tv_11 := rv_26 hT hr_7
    rw [ep_10] at tv_11
    refine lv_iconst (v := 1) hx hb dX12_trick_26 (by decide) ?_
    refine lv_isub hx hb dX12_trick_27 ?_
    refine lv_topi (fun x_12 ex_12 => ?_)
    refine zcS (zrS (As := [.int x2, .int 0, .int x_12]) (rest := []) C hs hP hS (c_X12_in l D K hM f A hT x2 0 x_12) m_X12_in wm_X12_91 ⟨by decide, by decide⟩ hl.1 (Nat.le_of_ble_eq_true rfl) dX12_trick_28) (fun x_13 p_13 => ?_)
    have pp_13 : (x_13.toInt ≠ 0 → (0 : Int32).toInt ≤ x2.toInt ∧ x2.toInt ≤ x_12.toInt) ∧ (x_13.toInt = 0 → x2.toInt < (0 : Int32).toInt ∨ x_12.toInt < x2.toInt) := p_13.2
    try simp only [ti_0] at pp_13
    have g_14 := z_rng x2
    have g_15 := z_rng (A 40 (x_5.toInt + 26).toNat)
    obtain ⟨f_12, l_12, u_12⟩ := z_sub ex_12 rfl ti_1
    try replace f_12 : x_12.toInt = (A 40 (x_5.toInt + 26).toNat).toInt - 1 := by omega
    clear l_12 u_12
    refine bz_eq (tgt := 52) hx hb rfl dX12_trick_31 (by decide) (fun c_16 => ?_) (fun c_16 => ?_)
    · skip
      replace pp_13 := pp_13.2 c_16
      refine lv_iconst (v := (-1)) hx hb dX12_trick_52 (by decide) ?_
      exact zaS hQ hx hb hr hlk trivial dX12_trick_53
    · skip
      replace pp_13 := pp_13.1 c_16
      refine lv_aload_n hx hb dX12_trick_34 rfl (lv_at hl 0 rfl) ?_
      refine mg_0 C hs hP ha0 hk0 wf_X12_8 dX12_trick_35 ?_
      refine lv_sipush (v := 1290) hx hb dX12_trick_38 (by decide) ?_
      refine lv_iload_n hx hb dX12_trick_41 rfl (lv_at hl 1 rfl) ?_
      refine lv_imul hx hb dX12_trick_42 ?_
      refine lv_topi (fun x_17 ex_17 => ?_)
      refine lv_bipush (v := 27) hx hb dX12_trick_43 (by decide) ?_
      refine lv_iadd hx hb dX12_trick_45 ?_
      refine lv_topi (fun x_18 ex_18 => ?_)
      refine lv_iload_n hx hb dX12_trick_46 rfl (lv_at hl 2 rfl) ?_
      refine lv_iadd hx hb dX12_trick_47 ?_
      refine lv_topi (fun x_19 ex_19 => ?_)
      obtain ⟨f_17, l_17, u_17⟩ := z_mul ex_17 ti_1290 rfl
      try replace f_17 : x_17.toInt = 1290 * x1.toInt := by omega
      clear l_17 u_17
      have hbs_21 : zRow x_17.toInt := zRow.of (t := x1.toInt) (by omega) (by omega)
      have hbl_hbs_21 := hbs_21.lin
      have hi_hr_20 : zEq x_19.toInt (x_17.toInt + x2.toInt + 27) := by
        obtain ⟨f_18, l_18, u_18⟩ := z_add ex_18 rfl ti_27
        try replace f_18 : x_18.toInt = x_17.toInt + 27 := by omega
        clear l_18 u_18
        obtain ⟨f_19, l_19, u_19⟩ := z_add ex_19 rfl rfl
        try replace f_19 : x_19.toInt = x_18.toInt + x2.toInt := by omega
        clear l_19 u_19
        show x_19.toInt = (x_17.toInt + x2.toInt + 27)
        omega
      have hl_hr_20 : 27 ≤ x2.toInt + 27 ∧ x2.toInt + 27 ≤ 30 := by
        omega
      have hid_hr_20 : (x_17.toInt + x2.toInt + 27) = x_17.toInt + (x2.toInt + 27) := by simp only [Int.add_assoc, Int.add_sub_assoc]
      have hr_20 := z_cell (lo := 27) (hi := 30) hbs_21 hi_hr_20 hid_hr_20 hl_hr_20 (by decide)
      replace hid_hr_20 : zEq (x_17.toInt + x2.toInt + 27) (x_17.toInt + (x2.toInt + 27)) := hid_hr_20
      have hin_22 : vp_in x_19 (zn K (zr K a0 0)) := vp_in_iff.mpr (by rw [(hf_4.2.2 (by decide))]; exact hr_20.in)
      refine mld_40 C hs hP hf_4.1 hf_4.2.1 hin_22 dX12_trick_48 ?_
      have ep_23 : x_19.toNatClampNeg = (x_17.toInt + x2.toInt + 27).toNat := z_posE hi_hr_20
      rw [ep_23]
      have tv_24 := rv_27 hT hr_20
      rw [ep_23] at tv_24
      refine lv_goto (tgt := 53) hx hb dX12_trick_49 (by decide) ?_
      exact zaS hQ hx hb hr hlk trivial dX12_trick_53
  · skip
    clear pp_1
    refine lv_bipush (v := (-2)) hx hb dX12_trick_8 (by decide) ?_
    exact zaS hQ hx hb hr hlk trivial dX12_trick_10
set_option maxHeartbeats 4000000 in
set_option maxRecDepth 100000 in
theorem c_X12_left (l : Launch) (D : va_G) (K : zK) (hM : mK K) (f : Nat → Int32) (A : Nat → Nat → Int32) (hT : mT f A) (a0 : Nat) (ha0 : a0 ∈ zl K) (hk0 : zk K a0 = 11) (x1 : Int32) (x2 : Int32) : Met l yX12_left (zc yX12_left cX12_left 3 (some .int)) (rmd 2) (va_Pc [.ref a0, .int x1, .int x2] (zB D K (mV K f A))) (vp_Si (fun r => True)) 0 0 (fun _ => False) := by
  refine zin (by decide) (Nat.le_of_ble_eq_true rfl) ?_
  intro p e s m args below meth c ls Q hQ C hr hlk hP hs hl
  have C : CallFix p m c cX12_left 3 s args zw RX12 := C
  obtain ⟨hx, hb, hml, hown, hts⟩ := id C
  have hO := hM.1
  have hS : va_S (zA K) s.heap s.heap [] := va_S.rf
  have hl : lv_has ls 3 [(0, .ref a0), (1, .int x1), (2, .int x2)] := hl
  refine lv_aload_n hx hb dX12_left_0 rfl (lv_at hl 0 rfl) ?_
  refine lv_iload_n hx hb dX12_left_1 rfl (lv_at hl 1 rfl) ?_
  refine zcS (zrV (As := [.int x1]) (b := a0) (rest := []) C hs hP hS (c_X12_isTable l D K hM f A hT a0 ha0 hk0 x1) m_X12_isTable wm_X12_107 (zrecv hs hP ha0 (zF_11 hk0) rfl) ⟨by decide, by decide⟩ hl.1 (Nat.le_of_ble_eq_true rfl) dX12_left_2) (fun x_1 p_1 => ?_)
  have pp_1 : (x_1.toInt ≠ 0 → 0 ≤ x1.toInt ∧ x1.toInt ≤ 3) := p_1.2
  have g_2 := z_rng x1
  refine bz_eq (tgt := 17) hx hb rfl dX12_left_5 (by decide) (fun c_3 => ?_) (fun c_3 => ?_)
  · skip
    clear pp_1
    refine lv_bipush (v := (-2)) hx hb dX12_left_17 (by decide) ?_
    exact zaS hQ hx hb hr hlk trivial dX12_left_19
  · skip
    replace pp_1 := pp_1 c_3
    refine lv_iload_n hx hb dX12_left_8 rfl (lv_at hl 2 rfl) ?_
    refine lv_iconst (v := 0) hx hb dX12_left_9 (by decide) ?_
    refine lv_iconst (v := 4) hx hb dX12_left_10 (by decide) ?_
    refine zcS (zrS (As := [.int x2, .int 0, .int 4]) (rest := []) C hs hP hS (c_X12_in l D K hM f A hT x2 0 4) m_X12_in wm_X12_91 ⟨by decide, by decide⟩ hl.1 (Nat.le_of_ble_eq_true rfl) dX12_left_11) (fun x_4 p_4 => ?_)
    have pp_4 : (x_4.toInt ≠ 0 → (0 : Int32).toInt ≤ x2.toInt ∧ x2.toInt ≤ (4 : Int32).toInt) ∧ (x_4.toInt = 0 → x2.toInt < (0 : Int32).toInt ∨ (4 : Int32).toInt < x2.toInt) := p_4.2
    try simp only [ti_0, ti_4] at pp_4
    have g_5 := z_rng x2
    refine bz_ne (tgt := 20) hx hb rfl dX12_left_14 (by decide) (fun c_6 => ?_) (fun c_6 => ?_)
    · skip
      replace pp_4 := pp_4.1 c_6
      refine lv_iload_n hx hb dX12_left_20 rfl (lv_at hl 2 rfl) ?_
      refine lv_iconst (v := 4) hx hb dX12_left_21 (by decide) ?_
      refine bi_ne (tgt := 41) hx hb rfl ti_4 dX12_left_22 (by decide) (fun c_7 => ?_) (fun c_7 => ?_)
      · skip
        refine lv_aload_n hx hb dX12_left_41 rfl (lv_at hl 0 rfl) ?_
        refine mg_0 C hs hP ha0 hk0 wf_X12_8 dX12_left_42 ?_
        have hf_8 := hO.r (j := 0) ha0 hk0 (rfl : zX 11 0 = some (40, 47730))
        refine lv_sipush (v := 1290) hx hb dX12_left_45 (by decide) ?_
        refine lv_iload_n hx hb dX12_left_48 rfl (lv_at hl 1 rfl) ?_
        refine lv_imul hx hb dX12_left_49 ?_
        refine lv_topi (fun x_9 ex_9 => ?_)
        refine lv_bipush (v := 22) hx hb dX12_left_50 (by decide) ?_
        refine lv_iadd hx hb dX12_left_52 ?_
        refine lv_topi (fun x_10 ex_10 => ?_)
        refine lv_iload_n hx hb dX12_left_53 rfl (lv_at hl 2 rfl) ?_
        refine lv_iadd hx hb dX12_left_54 ?_
        refine lv_topi (fun x_11 ex_11 => ?_)
        obtain ⟨f_9, l_9, u_9⟩ := z_mul ex_9 ti_1290 rfl
        try replace f_9 : x_9.toInt = 1290 * x1.toInt := by omega
        clear l_9 u_9
        have hbs_13 : zRow x_9.toInt := zRow.of (t := x1.toInt) (by omega) (by omega)
        have hbl_hbs_13 := hbs_13.lin
        have hi_hr_12 : zEq x_11.toInt (x_9.toInt + x2.toInt + 22) := by
          obtain ⟨f_10, l_10, u_10⟩ := z_add ex_10 rfl ti_22
          try replace f_10 : x_10.toInt = x_9.toInt + 22 := by omega
          clear l_10 u_10
          obtain ⟨f_11, l_11, u_11⟩ := z_add ex_11 rfl rfl
          try replace f_11 : x_11.toInt = x_10.toInt + x2.toInt := by omega
          clear l_11 u_11
          show x_11.toInt = (x_9.toInt + x2.toInt + 22)
          omega
        have hl_hr_12 : 22 ≤ x2.toInt + 22 ∧ x2.toInt + 22 ≤ 25 := by
          omega
        have hid_hr_12 : (x_9.toInt + x2.toInt + 22) = x_9.toInt + (x2.toInt + 22) := by simp only [Int.add_assoc, Int.add_sub_assoc]
        have hr_12 := z_cell (lo := 22) (hi := 25) hbs_13 hi_hr_12 hid_hr_12 hl_hr_12 (by decide)
        replace hid_hr_12 : zEq (x_9.toInt + x2.toInt + 22) (x_9.toInt + (x2.toInt + 22)) := hid_hr_12
        have hin_14 : vp_in x_11 (zn K (zr K a0 0)) := vp_in_iff.mpr (by rw [(hf_8.2.2 (by decide))]; exact hr_12.in)
        refine mld_40 C hs hP hf_8.1 hf_8.2.1 hin_14 dX12_left_55 ?_
        have ep_15 : x_11.toNatClampNeg = (x_9.toInt + x2.toInt + 22).toNat := z_posE hi_hr_12
        rw [ep_15]
        have tv_16 := rv_22 hT hr_12
        rw [ep_15] at tv_16
        exact zaS hQ hx hb hr hlk trivial dX12_left_56
      · skip
        refine lv_aload_n hx hb dX12_left_25 rfl (lv_at hl 0 rfl) ?_
        refine mg_0 C hs hP ha0 hk0 wf_X12_8 dX12_left_26 ?_
        have hf_17 := hO.r (j := 0) ha0 hk0 (rfl : zX 11 0 = some (40, 47730))
        refine lv_sipush (v := 1290) hx hb dX12_left_29 (by decide) ?_
        refine lv_iload_n hx hb dX12_left_32 rfl (lv_at hl 1 rfl) ?_
        refine lv_imul hx hb dX12_left_33 ?_
        refine lv_topi (fun x_18 ex_18 => ?_)
        refine lv_bipush (v := 21) hx hb dX12_left_34 (by decide) ?_
        refine lv_iadd hx hb dX12_left_36 ?_
        refine lv_topi (fun x_19 ex_19 => ?_)
        obtain ⟨f_18, l_18, u_18⟩ := z_mul ex_18 ti_1290 rfl
        try replace f_18 : x_18.toInt = 1290 * x1.toInt := by omega
        clear l_18 u_18
        have hbs_21 : zRow x_18.toInt := zRow.of (t := x1.toInt) (by omega) (by omega)
        have hbl_hbs_21 := hbs_21.lin
        have hi_hr_20 : zEq x_19.toInt (x_18.toInt + 21) := by
          obtain ⟨f_19, l_19, u_19⟩ := z_add ex_19 rfl ti_21
          try replace f_19 : x_19.toInt = x_18.toInt + 21 := by omega
          clear l_19 u_19
          show x_19.toInt = (x_18.toInt + 21)
          omega
        have hl_hr_20 : (21 : Int) ≤ 21 ∧ 21 ≤ (21 : Int) := by decide
        have hid_hr_20 : (x_18.toInt + 21) = x_18.toInt + (21) := by simp only [Int.add_assoc, Int.add_sub_assoc]
        have hr_20 := z_cell (lo := 20) (hi := 21) hbs_21 hi_hr_20 hid_hr_20 hl_hr_20 (by decide)
        replace hid_hr_20 : zEq (x_18.toInt + 21) (x_18.toInt + (21)) := hid_hr_20
        have hin_22 : vp_in x_19 (zn K (zr K a0 0)) := vp_in_iff.mpr (by rw [(hf_17.2.2 (by decide))]; exact hr_20.in)
        refine mld_40 C hs hP hf_17.1 hf_17.2.1 hin_22 dX12_left_37 ?_
        have ep_23 : x_19.toNatClampNeg = (x_18.toInt + 21).toNat := z_posE hi_hr_20
        rw [ep_23]
        have tv_24 := rv_20 hT hr_20
        rw [ep_23] at tv_24
        refine lv_goto (tgt := 56) hx hb dX12_left_38 (by decide) ?_
        exact zaS hQ hx hb hr hlk trivial dX12_left_56
    · skip
      replace pp_4 := pp_4.2 c_6
      refine lv_bipush (v := (-2)) hx hb dX12_left_17 (by decide) ?_
      exact zaS hQ hx hb hr hlk trivial dX12_left_19
set_option maxHeartbeats 4000000 in
set_option maxRecDepth 100000 in
theorem c_X12_sum (l : Launch) (D : va_G) (K : zK) (hM : mK K) (f : Nat → Int32) (A : Nat → Nat → Int32) (hT : mT f A) (a0 : Nat) (ha0 : a0 ∈ zl K) (hk0 : zk K a0 = 11) (x1 : Int32) (x2 : Int32) : Met l yX12_sum (zc yX12_sum cX12_sum 3 (some .int)) (rmd 2) (va_Pc [.ref a0, .int x1, .int x2] (zB D K (mV K f A))) (vp_Si (fun r => True)) 0 0 (fun _ => False) := by
  refine zin (by decide) (Nat.le_of_ble_eq_true rfl) ?_
  intro p e s m args below meth c ls Q hQ C hr hlk hP hs hl
  have C : CallFix p m c cX12_sum 3 s args zw RX12 := C
  obtain ⟨hx, hb, hml, hown, hts⟩ := id C
  have hO := hM.1
  have hS : va_S (zA K) s.heap s.heap [] := va_S.rf
  have hl : lv_has ls 3 [(0, .ref a0), (1, .int x1), (2, .int x2)] := hl
  refine lv_aload_n hx hb dX12_sum_0 rfl (lv_at hl 0 rfl) ?_
  refine lv_iload_n hx hb dX12_sum_1 rfl (lv_at hl 1 rfl) ?_
  refine zcS (zrV (As := [.int x1]) (b := a0) (rest := []) C hs hP hS (c_X12_isTable l D K hM f A hT a0 ha0 hk0 x1) m_X12_isTable wm_X12_107 (zrecv hs hP ha0 (zF_11 hk0) rfl) ⟨by decide, by decide⟩ hl.1 (Nat.le_of_ble_eq_true rfl) dX12_sum_2) (fun x_1 p_1 => ?_)
  have pp_1 : (x_1.toInt ≠ 0 → 0 ≤ x1.toInt ∧ x1.toInt ≤ 3) := p_1.2
  have g_2 := z_rng x1
  refine bz_eq (tgt := 33) hx hb rfl dX12_sum_5 (by decide) (fun c_3 => ?_) (fun c_3 => ?_)
  · skip
    clear pp_1
    refine lv_bipush (v := (-2)) hx hb dX12_sum_33 (by decide) ?_
    exact zaS hQ hx hb hr hlk trivial dX12_sum_35
  · skip
    replace pp_1 := pp_1 c_3
    refine lv_iload_n hx hb dX12_sum_8 rfl (lv_at hl 2 rfl) ?_
    refine zcS (zrS (As := [.int x2]) (rest := []) C hs hP hS (c_X12_isSeat l D K hM f A hT x2) m_X12_isSeat wm_X12_110 ⟨by decide, by decide⟩ hl.1 (Nat.le_of_ble_eq_true rfl) dX12_sum_9) (fun x_4 p_4 => ?_)
    have pp_4 : (x_4.toInt ≠ 0 → 0 ≤ x2.toInt ∧ x2.toInt ≤ 3) ∧ (x_4.toInt = 0 → x2.toInt < 0 ∨ 3 < x2.toInt) := p_4.2
    have g_5 := z_rng x2
    refine bz_eq (tgt := 33) hx hb rfl dX12_sum_12 (by decide) (fun c_6 => ?_) (fun c_6 => ?_)
    · skip
      replace pp_4 := pp_4.2 c_6
      refine lv_bipush (v := (-2)) hx hb dX12_sum_33 (by decide) ?_
      exact zaS hQ hx hb hr hlk trivial dX12_sum_35
    · skip
      replace pp_4 := pp_4.1 c_6
      refine lv_aload_n hx hb dX12_sum_15 rfl (lv_at hl 0 rfl) ?_
      refine mg_0 C hs hP ha0 hk0 wf_X12_8 dX12_sum_16 ?_
      have hf_7 := hO.r (j := 0) ha0 hk0 (rfl : zX 11 0 = some (40, 47730))
      refine lv_sipush (v := 1290) hx hb dX12_sum_19 (by decide) ?_
      refine lv_iload_n hx hb dX12_sum_22 rfl (lv_at hl 1 rfl) ?_
      refine lv_imul hx hb dX12_sum_23 ?_
      refine lv_topi (fun x_8 ex_8 => ?_)
      refine lv_bipush (v := 39) hx hb dX12_sum_24 (by decide) ?_
      refine lv_iadd hx hb dX12_sum_26 ?_
      refine lv_topi (fun x_9 ex_9 => ?_)
      refine lv_iload_n hx hb dX12_sum_27 rfl (lv_at hl 2 rfl) ?_
      refine lv_iadd hx hb dX12_sum_28 ?_
      refine lv_topi (fun x_10 ex_10 => ?_)
      obtain ⟨f_8, l_8, u_8⟩ := z_mul ex_8 ti_1290 rfl
      try replace f_8 : x_8.toInt = 1290 * x1.toInt := by omega
      clear l_8 u_8
      have hbs_12 : zRow x_8.toInt := zRow.of (t := x1.toInt) (by omega) (by omega)
      have hbl_hbs_12 := hbs_12.lin
      have hi_hr_11 : zEq x_10.toInt (x_8.toInt + x2.toInt + 39) := by
        obtain ⟨f_9, l_9, u_9⟩ := z_add ex_9 rfl ti_39
        try replace f_9 : x_9.toInt = x_8.toInt + 39 := by omega
        clear l_9 u_9
        obtain ⟨f_10, l_10, u_10⟩ := z_add ex_10 rfl rfl
        try replace f_10 : x_10.toInt = x_9.toInt + x2.toInt := by omega
        clear l_10 u_10
        show x_10.toInt = (x_8.toInt + x2.toInt + 39)
        omega
      have hl_hr_11 : 39 ≤ x2.toInt + 39 ∧ x2.toInt + 39 ≤ 42 := by
        omega
      have hid_hr_11 : (x_8.toInt + x2.toInt + 39) = x_8.toInt + (x2.toInt + 39) := by simp only [Int.add_assoc, Int.add_sub_assoc]
      have hr_11 := z_cell (lo := 39) (hi := 42) hbs_12 hi_hr_11 hid_hr_11 hl_hr_11 (by decide)
      replace hid_hr_11 : zEq (x_8.toInt + x2.toInt + 39) (x_8.toInt + (x2.toInt + 39)) := hid_hr_11
      have hin_13 : vp_in x_10 (zn K (zr K a0 0)) := vp_in_iff.mpr (by rw [(hf_7.2.2 (by decide))]; exact hr_11.in)
      refine mld_40 C hs hP hf_7.1 hf_7.2.1 hin_13 dX12_sum_29 ?_
      have ep_14 : x_10.toNatClampNeg = (x_8.toInt + x2.toInt + 39).toNat := z_posE hi_hr_11
      rw [ep_14]
      refine lv_goto (tgt := 35) hx hb dX12_sum_30 (by decide) ?_
      exact zaS hQ hx hb hr hlk trivial dX12_sum_35
set_option maxHeartbeats 4000000 in
set_option maxRecDepth 100000 in
theorem c_X12_card (l : Launch) (D : va_G) (K : zK) (hM : mK K) (f : Nat → Int32) (A : Nat → Nat → Int32) (hT : mT f A) (a0 : Nat) (ha0 : a0 ∈ zl K) (hk0 : zk K a0 = 11) (x1 : Int32) (x2 : Int32) : Met l yX12_card (zc yX12_card cX12_card 3 (some .int)) (rmd 2) (va_Pc [.ref a0, .int x1, .int x2] (zB D K (mV K f A))) (vp_Si (fun r => True)) 0 0 (fun _ => False) := by
  refine zin (by decide) (Nat.le_of_ble_eq_true rfl) ?_
  intro p e s m args below meth c ls Q hQ C hr hlk hP hs hl
  have C : CallFix p m c cX12_card 3 s args zw RX12 := C
  obtain ⟨hx, hb, hml, hown, hts⟩ := id C
  have hO := hM.1
  have hS : va_S (zA K) s.heap s.heap [] := va_S.rf
  have hl : lv_has ls 3 [(0, .ref a0), (1, .int x1), (2, .int x2)] := hl
  refine lv_aload_n hx hb dX12_card_0 rfl (lv_at hl 0 rfl) ?_
  refine lv_iload_n hx hb dX12_card_1 rfl (lv_at hl 1 rfl) ?_
  refine zcS (zrV (As := [.int x1]) (b := a0) (rest := []) C hs hP hS (c_X12_isTable l D K hM f A hT a0 ha0 hk0 x1) m_X12_isTable wm_X12_107 (zrecv hs hP ha0 (zF_11 hk0) rfl) ⟨by decide, by decide⟩ hl.1 (Nat.le_of_ble_eq_true rfl) dX12_card_2) (fun x_1 p_1 => ?_)
  have pp_1 : (x_1.toInt ≠ 0 → 0 ≤ x1.toInt ∧ x1.toInt ≤ 3) := p_1.2
  have g_2 := z_rng x1
  refine bz_eq (tgt := 35) hx hb rfl dX12_card_5 (by decide) (fun c_3 => ?_) (fun c_3 => ?_)
  · skip
    clear pp_1
    refine lv_bipush (v := (-2)) hx hb dX12_card_35 (by decide) ?_
    exact zaS hQ hx hb hr hlk trivial dX12_card_37
  · skip
    replace pp_1 := pp_1 c_3
    refine lv_aload_n hx hb dX12_card_8 rfl (lv_at hl 0 rfl) ?_
    refine lv_iload_n hx hb dX12_card_9 rfl (lv_at hl 1 rfl) ?_
    refine lv_iload_n hx hb dX12_card_10 rfl (lv_at hl 2 rfl) ?_
    have g_4 := z_rng x2
    have hq_5 : 0 ≤ x1.toInt ∧ x1.toInt ≤ 3 := by (first | assumption | omega | (intros; omega))
    refine zcS (zrV (As := [.int x1, .int x2]) (b := a0) (rest := []) C hs hP hS (c_X12_isCard l D K hM f A hT a0 ha0 hk0 x1 x2 hq_5) m_X12_isCard wm_X12_113 (zrecv hs hP ha0 (zF_11 hk0) rfl) ⟨by decide, by decide⟩ hl.1 (Nat.le_of_ble_eq_true rfl) dX12_card_11) (fun x_6 p_6 => ?_)
    have pp_6 : (x_6.toInt ≠ 0 → 0 ≤ x2.toInt ∧ x2.toInt ≤ 59) := p_6.2
    refine bz_eq (tgt := 35) hx hb rfl dX12_card_14 (by decide) (fun c_7 => ?_) (fun c_7 => ?_)
    · skip
      clear pp_6
      refine lv_bipush (v := (-2)) hx hb dX12_card_35 (by decide) ?_
      exact zaS hQ hx hb hr hlk trivial dX12_card_37
    · skip
      replace pp_6 := pp_6 c_7
      refine lv_aload_n hx hb dX12_card_17 rfl (lv_at hl 0 rfl) ?_
      refine mg_0 C hs hP ha0 hk0 wf_X12_8 dX12_card_18 ?_
      have hf_8 := hO.r (j := 0) ha0 hk0 (rfl : zX 11 0 = some (40, 47730))
      refine lv_sipush (v := 1290) hx hb dX12_card_21 (by decide) ?_
      refine lv_iload_n hx hb dX12_card_24 rfl (lv_at hl 1 rfl) ?_
      refine lv_imul hx hb dX12_card_25 ?_
      refine lv_topi (fun x_9 ex_9 => ?_)
      refine lv_bipush (v := 110) hx hb dX12_card_26 (by decide) ?_
      refine lv_iadd hx hb dX12_card_28 ?_
      refine lv_topi (fun x_10 ex_10 => ?_)
      refine lv_iload_n hx hb dX12_card_29 rfl (lv_at hl 2 rfl) ?_
      refine lv_iadd hx hb dX12_card_30 ?_
      refine lv_topi (fun x_11 ex_11 => ?_)
      obtain ⟨f_9, l_9, u_9⟩ := z_mul ex_9 ti_1290 rfl
      try replace f_9 : x_9.toInt = 1290 * x1.toInt := by omega
      clear l_9 u_9
      have hbs_13 : zRow x_9.toInt := zRow.of (t := x1.toInt) (by omega) (by omega)
      have hbl_hbs_13 := hbs_13.lin
      have hi_hr_12 : zEq x_11.toInt (x_9.toInt + x2.toInt + 110) := by
        obtain ⟨f_10, l_10, u_10⟩ := z_add ex_10 rfl ti_110
        try replace f_10 : x_10.toInt = x_9.toInt + 110 := by omega
        clear l_10 u_10
        obtain ⟨f_11, l_11, u_11⟩ := z_add ex_11 rfl rfl
        try replace f_11 : x_11.toInt = x_10.toInt + x2.toInt := by omega
        clear l_11 u_11
        show x_11.toInt = (x_9.toInt + x2.toInt + 110)
        omega
      have hl_hr_12 : 110 ≤ x2.toInt + 110 ∧ x2.toInt + 110 ≤ 169 := by
        omega
      have hid_hr_12 : (x_9.toInt + x2.toInt + 110) = x_9.toInt + (x2.toInt + 110) := by simp only [Int.add_assoc, Int.add_sub_assoc]
      have hr_12 := z_cell (lo := 45) (hi := 169) hbs_13 hi_hr_12 hid_hr_12 hl_hr_12 (by decide)
      replace hid_hr_12 : zEq (x_9.toInt + x2.toInt + 110) (x_9.toInt + (x2.toInt + 110)) := hid_hr_12
      have hin_14 : vp_in x_11 (zn K (zr K a0 0)) := vp_in_iff.mpr (by rw [(hf_8.2.2 (by decide))]; exact hr_12.in)
      refine mld_40 C hs hP hf_8.1 hf_8.2.1 hin_14 dX12_card_31 ?_
      have ep_15 : x_11.toNatClampNeg = (x_9.toInt + x2.toInt + 110).toNat := z_posE hi_hr_12
      rw [ep_15]
      refine lv_goto (tgt := 37) hx hb dX12_card_32 (by decide) ?_
      exact zaS hQ hx hb hr hlk trivial dX12_card_37
set_option maxHeartbeats 4000000 in
set_option maxRecDepth 100000 in
theorem c_X12_finding (l : Launch) (D : va_G) (K : zK) (hM : mK K) (f : Nat → Int32) (A : Nat → Nat → Int32) (hT : mT f A) (a0 : Nat) (ha0 : a0 ∈ zl K) (hk0 : zk K a0 = 11) (x1 : Int32) (x2 : Int32) : Met l yX12_finding (zc yX12_finding cX12_finding 4 (some .int)) (rmd 1) (va_Pc [.ref a0, .int x1, .int x2] (zB D K (mV K f A))) (vp_Si (fun r => True)) 0 0 (fun _ => False) := by
  refine zin (by decide) (Nat.le_of_ble_eq_true rfl) ?_
  intro p e s m args below meth c ls Q hQ C hr hlk hP hs hl
  have C : CallFix p m c cX12_finding 4 s args zw RX12 := C
  obtain ⟨hx, hb, hml, hown, hts⟩ := id C
  have hO := hM.1
  have hS : va_S (zA K) s.heap s.heap [] := va_S.rf
  have hl : lv_has ls 4 [(0, .ref a0), (1, .int x1), (2, .int x2)] := hl
  refine lv_iload_n hx hb dX12_finding_0 rfl (lv_at hl 2 rfl) ?_
  refine lv_iconst (v := 0) hx hb dX12_finding_1 (by decide) ?_
  refine lv_iconst (v := 4) hx hb dX12_finding_2 (by decide) ?_
  refine zcS (zrS (As := [.int x2, .int 0, .int 4]) (rest := []) C hs hP hS (c_X12_in l D K hM f A hT x2 0 4) m_X12_in wm_X12_91 ⟨by decide, by decide⟩ hl.1 (Nat.le_of_ble_eq_true rfl) dX12_finding_3) (fun x_1 p_1 => ?_)
  have pp_1 : (x_1.toInt ≠ 0 → (0 : Int32).toInt ≤ x2.toInt ∧ x2.toInt ≤ (4 : Int32).toInt) ∧ (x_1.toInt = 0 → x2.toInt < (0 : Int32).toInt ∨ (4 : Int32).toInt < x2.toInt) := p_1.2
  try simp only [ti_0, ti_4] at pp_1
  have g_2 := z_rng x2
  refine bz_ne (tgt := 12) hx hb rfl dX12_finding_6 (by decide) (fun c_3 => ?_) (fun c_3 => ?_)
  · skip
    replace pp_1 := pp_1.1 c_3
    refine lv_aload_n hx hb dX12_finding_12 rfl (lv_at hl 0 rfl) ?_
    refine mg_9 C hs hP ha0 hk0 wf_X12_85 dX12_finding_13 ?_
    have tf_4 : 0 ≤ (f 9).toInt := hT.1 9
    refine lv_bipush (v := 60) hx hb dX12_finding_16 (by decide) ?_
    refine zcS (zrS (As := [.int (f 9), .int 60]) (rest := []) C hs hP hS (c_X12_least l D K hM f A hT (f 9) 60) m_X12_least wm_X12_250 ⟨by decide, by decide⟩ hl.1 (Nat.le_of_ble_eq_true rfl) dX12_finding_18) (fun x_5 p_5 => ?_)
    have pp_5 : x_5.toInt ≤ (f 9).toInt ∧ x_5.toInt ≤ (60 : Int32).toInt ∧ (x_5.toInt = (f 9).toInt ∨ x_5.toInt = (60 : Int32).toInt) := p_5
    try simp only [ti_60] at pp_5
    have g_6 := z_rng (f 9)
    refine lv_istore_n (lv' := [(3, .int x_5), (0, .ref a0), (1, .int x1), (2, .int x2)]) hx hb dX12_finding_21 rfl hl (by decide) rfl (fun ls hl => ?_)
    refine lv_iload_n hx hb dX12_finding_22 rfl (lv_at hl 2 rfl) ?_
    refine lv_iconst (v := 0) hx hb dX12_finding_23 (by decide) ?_
    refine lv_iload_n hx hb dX12_finding_24 rfl (lv_at hl 0 rfl) ?_
    refine lv_iconst (v := 1) hx hb dX12_finding_25 (by decide) ?_
    refine lv_isub hx hb dX12_finding_26 ?_
    refine lv_topi (fun x_7 ex_7 => ?_)
    refine zcS (zrS (As := [.int x1, .int 0, .int x_7]) (rest := []) C hs hP hS (c_X12_in l D K hM f A hT x1 0 x_7) m_X12_in wm_X12_91 ⟨by decide, by decide⟩ hl.1 (Nat.le_of_ble_eq_true rfl) dX12_finding_27) (fun x_8 p_8 => ?_)
    have pp_8 : (x_8.toInt ≠ 0 → (0 : Int32).toInt ≤ x1.toInt ∧ x1.toInt ≤ x_7.toInt) ∧ (x_8.toInt = 0 → x1.toInt < (0 : Int32).toInt ∨ x_7.toInt < x1.toInt) := p_8.2
    try simp only [ti_0] at pp_8
    have g_9 := z_rng x1
    have g_10 := z_rng x_5
    obtain ⟨f_7, l_7, u_7⟩ := z_sub ex_7 rfl ti_1
    try replace f_7 : x_7.toInt = x_5.toInt - 1 := by omega
    clear l_7 u_7
    refine bz_eq (tgt := 56) hx hb rfl dX12_finding_30 (by decide) (fun c_11 => ?_) (fun c_11 => ?_)
    · skip
      replace pp_8 := pp_8.2 c_11
      refine lv_iconst (v := (-1)) hx hb dX12_finding_56 (by decide) ?_
      exact zaS hQ hx hb hr hlk trivial dX12_finding_57
    · skip
      replace pp_8 := pp_8.1 c_11
      refine lv_aload_n hx hb dX12_finding_33 rfl (lv_at hl 1 rfl) ?_
      refine mg_8 C hs hP ha0 hk0 wf_X12_30 dX12_finding_34 ?_
      have hf_12 := hO.r (j := 8) ha0 hk0 (rfl : zX 11 8 = some (48, 300))
      refine lv_iconst (v := 5) hx hb dX12_finding_37 (by decide) ?_
      refine lv_aload_n hx hb dX12_finding_38 rfl (lv_at hl 1 rfl) ?_
      refine mg_9 C hs hP ha0 hk0 wf_X12_85 dX12_finding_39 ?_
      refine lv_iload_n hx hb dX12_finding_42 rfl (lv_at hl 0 rfl) ?_
      refine lv_isub hx hb dX12_finding_43 ?_
      refine lv_topi (fun x_13 ex_13 => ?_)
      refine lv_iload_n hx hb dX12_finding_44 rfl (lv_at hl 2 rfl) ?_
      refine lv_iadd hx hb dX12_finding_45 ?_
      refine lv_topi (fun x_14 ex_14 => ?_)
      refine lv_bipush (v := 60) hx hb dX12_finding_46 (by decide) ?_
      refine lv_irem hx hb dX12_finding_48 (by decide) ?_
      refine lv_topi (fun x_15 ex_15 => ?_)
      refine lv_imul hx hb dX12_finding_49 ?_
      refine lv_topi (fun x_16 ex_16 => ?_)
      refine lv_iload_n hx hb dX12_finding_50 rfl (lv_at hl 3 rfl) ?_
      refine lv_iadd hx hb dX12_finding_51 ?_
      refine lv_topi (fun x_17 ex_17 => ?_)
      obtain ⟨f_13, l_13, u_13⟩ := z_sub ex_13 rfl rfl
      try replace f_13 : x_13.toInt = (f 9).toInt - x_5.toInt := by omega
      clear l_13 u_13
      obtain ⟨f_14, l_14, u_14⟩ := z_add ex_14 rfl rfl
      try replace f_14 : x_14.toInt = x_13.toInt + x1.toInt := by omega
      clear l_14 u_14
      have f_15 := z_rem ex_15 rfl ti_60 (by decide)
      obtain ⟨f_16, l_16, u_16⟩ := z_mul ex_16 ti_5 rfl
      try replace f_16 : x_16.toInt = 5 * x_15.toInt := by omega
      clear l_16 u_16
      obtain ⟨f_17, l_17, u_17⟩ := z_add ex_17 rfl rfl
      try replace f_17 : x_17.toInt = x_16.toInt + x2.toInt := by omega
      clear l_17 u_17
      have hin_18 : vp_in x_17 (zn K (zr K a0 8)) := vp_in_iff.mpr (by rw [(hf_12.2.2 (by decide))]; refine ⟨?_, ?_⟩ <;> omega)
      refine mld_48 C hs hP hf_12.1 hf_12.2.1 hin_18 dX12_finding_52 ?_
      refine lv_goto (tgt := 57) hx hb dX12_finding_53 (by decide) ?_
      exact zaS hQ hx hb hr hlk trivial dX12_finding_57
  · skip
    replace pp_1 := pp_1.2 c_3
    refine lv_bipush (v := (-3)) hx hb dX12_finding_9 (by decide) ?_
    exact zaS hQ hx hb hr hlk trivial dX12_finding_11
set_option maxHeartbeats 4000000 in
set_option maxRecDepth 100000 in
theorem c_X12_status (l : Launch) (D : va_G) (K : zK) (hM : mK K) (f : Nat → Int32) (A : Nat → Nat → Int32) (hT : mT f A) (a0 : Nat) (ha0 : a0 ∈ zl K) (hk0 : zk K a0 = 11) (x1 : Int32) (x2 : Int32) : Met l yX12_status (zc yX12_status cX12_status 4 (some .int)) (rmd 2) (va_Pc [.ref a0, .int x1, .int x2] (zB D K (mV K f A))) (vp_Si (fun r => True)) 0 0 (fun _ => False) := by
  refine zin (by decide) (Nat.le_of_ble_eq_true rfl) ?_
  intro p e s m args below meth c ls Q hQ C hr hlk hP hs hl
  have C : CallFix p m c cX12_status 4 s args zw RX12 := C
  obtain ⟨hx, hb, hml, hown, hts⟩ := id C
  have hO := hM.1
  have hS : va_S (zA K) s.heap s.heap [] := va_S.rf
  have hl : lv_has ls 4 [(0, .ref a0), (1, .int x1), (2, .int x2)] := hl
  refine lv_aload_n hx hb dX12_status_0 rfl (lv_at hl 0 rfl) ?_
  refine lv_iload_n hx hb dX12_status_1 rfl (lv_at hl 1 rfl) ?_
  refine zcS (zrV (As := [.int x1]) (b := a0) (rest := []) C hs hP hS (c_X12_isTable l D K hM f A hT a0 ha0 hk0 x1) m_X12_isTable wm_X12_107 (zrecv hs hP ha0 (zF_11 hk0) rfl) ⟨by decide, by decide⟩ hl.1 (Nat.le_of_ble_eq_true rfl) dX12_status_2) (fun x_1 p_1 => ?_)
  have pp_1 : (x_1.toInt ≠ 0 → 0 ≤ x1.toInt ∧ x1.toInt ≤ 3) := p_1.2
  have g_2 := z_rng x1
  refine bz_ne (tgt := 11) hx hb rfl dX12_status_5 (by decide) (fun c_3 => ?_) (fun c_3 => ?_)
  · skip
    replace pp_1 := pp_1 c_3
    refine lv_sipush (v := 1290) hx hb dX12_status_11 (by decide) ?_
    refine lv_iload_n hx hb dX12_status_14 rfl (lv_at hl 1 rfl) ?_
    refine lv_imul hx hb dX12_status_15 ?_
    refine lv_topi (fun x_4 ex_4 => ?_)
    refine lv_istore_n (lv' := [(3, .int x_4), (0, .ref a0), (1, .int x1), (2, .int x2)]) hx hb dX12_status_16 rfl hl (by decide) rfl (fun ls hl => ?_)
    refine lv_iload_n hx hb dX12_status_17 rfl (lv_at hl 3 rfl) ?_
    rcases Classical.em (x2.toInt = 0) with c_5 | c_5
    · refine lv_tableIn (tgt := 68) hx hb dX12_status_18 (by omega) (by omega) (by rw [c_5]; rfl) (by decide) ?_
      refine lv_aload_n hx hb dX12_status_68 rfl (lv_at hl 1 rfl) ?_
      refine mg_0 C hs hP ha0 hk0 wf_X12_8 dX12_status_69 ?_
      have hf_6 := hO.r (j := 0) ha0 hk0 (rfl : zX 11 0 = some (40, 47730))
      refine lv_iload_n hx hb dX12_status_72 rfl (lv_at hl 0 rfl) ?_
      refine lv_iconst (v := 5) hx hb dX12_status_73 (by decide) ?_
      refine lv_iadd hx hb dX12_status_74 ?_
      refine lv_topi (fun x_7 ex_7 => ?_)
      obtain ⟨f_4, l_4, u_4⟩ := z_mul ex_4 ti_1290 rfl
      try replace f_4 : x_4.toInt = 1290 * x1.toInt := by omega
      clear l_4 u_4
      have hbs_9 : zRow x_4.toInt := zRow.of (t := x1.toInt) (by omega) (by omega)
      have hbl_hbs_9 := hbs_9.lin
      have hi_hr_8 : zEq x_7.toInt (x_4.toInt + 5) := by
        obtain ⟨f_7, l_7, u_7⟩ := z_add ex_7 rfl ti_5
        try replace f_7 : x_7.toInt = x_4.toInt + 5 := by omega
        clear l_7 u_7
        show x_7.toInt = (x_4.toInt + 5)
        omega
      have hl_hr_8 : (5 : Int) ≤ 5 ∧ 5 ≤ (5 : Int) := by decide
      have hid_hr_8 : (x_4.toInt + 5) = x_4.toInt + (5) := by simp only [Int.add_assoc, Int.add_sub_assoc]
      have hr_8 := z_cell (lo := 2) (hi := 8) hbs_9 hi_hr_8 hid_hr_8 hl_hr_8 (by decide)
      replace hid_hr_8 : zEq (x_4.toInt + 5) (x_4.toInt + (5)) := hid_hr_8
      have hin_10 : vp_in x_7 (zn K (zr K a0 0)) := vp_in_iff.mpr (by rw [(hf_6.2.2 (by decide))]; exact hr_8.in)
      refine mld_40 C hs hP hf_6.1 hf_6.2.1 hin_10 dX12_status_75 ?_
      have ep_11 : x_7.toNatClampNeg = (x_4.toInt + 5).toNat := z_posE hi_hr_8
      rw [ep_11]
      exact zaS hQ hx hb hr hlk trivial dX12_status_76
    · have d_12 := c_5
      rcases Classical.em (x2.toInt = 1) with c_13 | c_13
      · refine lv_tableIn (tgt := 77) hx hb dX12_status_18 (by omega) (by omega) (by rw [c_13]; rfl) (by decide) ?_
        refine lv_aload_n hx hb dX12_status_77 rfl (lv_at hl 1 rfl) ?_
        refine mg_0 C hs hP ha0 hk0 wf_X12_8 dX12_status_78 ?_
        have hf_14 := hO.r (j := 0) ha0 hk0 (rfl : zX 11 0 = some (40, 47730))
        refine lv_iload_n hx hb dX12_status_81 rfl (lv_at hl 0 rfl) ?_
        refine lv_bipush (v := 6) hx hb dX12_status_82 (by decide) ?_
        refine lv_iadd hx hb dX12_status_84 ?_
        refine lv_topi (fun x_15 ex_15 => ?_)
        obtain ⟨f_4, l_4, u_4⟩ := z_mul ex_4 ti_1290 rfl
        try replace f_4 : x_4.toInt = 1290 * x1.toInt := by omega
        clear l_4 u_4
        have hbs_17 : zRow x_4.toInt := zRow.of (t := x1.toInt) (by omega) (by omega)
        have hbl_hbs_17 := hbs_17.lin
        have hi_hr_16 : zEq x_15.toInt (x_4.toInt + 6) := by
          obtain ⟨f_15, l_15, u_15⟩ := z_add ex_15 rfl ti_6
          try replace f_15 : x_15.toInt = x_4.toInt + 6 := by omega
          clear l_15 u_15
          show x_15.toInt = (x_4.toInt + 6)
          omega
        have hl_hr_16 : (6 : Int) ≤ 6 ∧ 6 ≤ (6 : Int) := by decide
        have hid_hr_16 : (x_4.toInt + 6) = x_4.toInt + (6) := by simp only [Int.add_assoc, Int.add_sub_assoc]
        have hr_16 := z_cell (lo := 2) (hi := 8) hbs_17 hi_hr_16 hid_hr_16 hl_hr_16 (by decide)
        replace hid_hr_16 : zEq (x_4.toInt + 6) (x_4.toInt + (6)) := hid_hr_16
        have hin_18 : vp_in x_15 (zn K (zr K a0 0)) := vp_in_iff.mpr (by rw [(hf_14.2.2 (by decide))]; exact hr_16.in)
        refine mld_40 C hs hP hf_14.1 hf_14.2.1 hin_18 dX12_status_85 ?_
        have ep_19 : x_15.toNatClampNeg = (x_4.toInt + 6).toNat := z_posE hi_hr_16
        rw [ep_19]
        exact zaS hQ hx hb hr hlk trivial dX12_status_86
      · have d_20 := c_13
        rcases Classical.em (x2.toInt = 2) with c_21 | c_21
        · refine lv_tableIn (tgt := 87) hx hb dX12_status_18 (by omega) (by omega) (by rw [c_21]; rfl) (by decide) ?_
          refine lv_aload_n hx hb dX12_status_87 rfl (lv_at hl 1 rfl) ?_
          refine mg_0 C hs hP ha0 hk0 wf_X12_8 dX12_status_88 ?_
          have hf_22 := hO.r (j := 0) ha0 hk0 (rfl : zX 11 0 = some (40, 47730))
          refine lv_iload_n hx hb dX12_status_91 rfl (lv_at hl 0 rfl) ?_
          refine lv_bipush (v := 8) hx hb dX12_status_92 (by decide) ?_
          refine lv_iadd hx hb dX12_status_94 ?_
          refine lv_topi (fun x_23 ex_23 => ?_)
          obtain ⟨f_4, l_4, u_4⟩ := z_mul ex_4 ti_1290 rfl
          try replace f_4 : x_4.toInt = 1290 * x1.toInt := by omega
          clear l_4 u_4
          have hbs_25 : zRow x_4.toInt := zRow.of (t := x1.toInt) (by omega) (by omega)
          have hbl_hbs_25 := hbs_25.lin
          have hi_hr_24 : zEq x_23.toInt (x_4.toInt + 8) := by
            obtain ⟨f_23, l_23, u_23⟩ := z_add ex_23 rfl ti_8
            try replace f_23 : x_23.toInt = x_4.toInt + 8 := by omega
            clear l_23 u_23
            show x_23.toInt = (x_4.toInt + 8)
            omega
          have hl_hr_24 : (8 : Int) ≤ 8 ∧ 8 ≤ (8 : Int) := by decide
          have hid_hr_24 : (x_4.toInt + 8) = x_4.toInt + (8) := by simp only [Int.add_assoc, Int.add_sub_assoc]
          have hr_24 := z_cell (lo := 2) (hi := 8) hbs_25 hi_hr_24 hid_hr_24 hl_hr_24 (by decide)
          replace hid_hr_24 : zEq (x_4.toInt + 8) (x_4.toInt + (8)) := hid_hr_24
          have hin_26 : vp_in x_23 (zn K (zr K a0 0)) := vp_in_iff.mpr (by rw [(hf_22.2.2 (by decide))]; exact hr_24.in)
          refine mld_40 C hs hP hf_22.1 hf_22.2.1 hin_26 dX12_status_95 ?_
          have ep_27 : x_23.toNatClampNeg = (x_4.toInt + 8).toNat := z_posE hi_hr_24
          rw [ep_27]
          exact zaS hQ hx hb hr hlk trivial dX12_status_96
        · have d_28 := c_21
          rcases Classical.em (x2.toInt = 3) with c_29 | c_29
          · refine lv_tableIn (tgt := 97) hx hb dX12_status_18 (by omega) (by omega) (by rw [c_29]; rfl) (by decide) ?_
            refine lv_aload_n hx hb dX12_status_97 rfl (lv_at hl 1 rfl) ?_
            refine mg_0 C hs hP ha0 hk0 wf_X12_8 dX12_status_98 ?_
            have hf_30 := hO.r (j := 0) ha0 hk0 (rfl : zX 11 0 = some (40, 47730))
            refine lv_iload_n hx hb dX12_status_101 rfl (lv_at hl 0 rfl) ?_
            refine lv_bipush (v := 15) hx hb dX12_status_102 (by decide) ?_
            refine lv_iadd hx hb dX12_status_104 ?_
            refine lv_topi (fun x_31 ex_31 => ?_)
            obtain ⟨f_4, l_4, u_4⟩ := z_mul ex_4 ti_1290 rfl
            try replace f_4 : x_4.toInt = 1290 * x1.toInt := by omega
            clear l_4 u_4
            have hbs_33 : zRow x_4.toInt := zRow.of (t := x1.toInt) (by omega) (by omega)
            have hbl_hbs_33 := hbs_33.lin
            have hi_hr_32 : zEq x_31.toInt (x_4.toInt + 15) := by
              obtain ⟨f_31, l_31, u_31⟩ := z_add ex_31 rfl ti_15
              try replace f_31 : x_31.toInt = x_4.toInt + 15 := by omega
              clear l_31 u_31
              show x_31.toInt = (x_4.toInt + 15)
              omega
            have hl_hr_32 : (15 : Int) ≤ 15 ∧ 15 ≤ (15 : Int) := by decide
            have hid_hr_32 : (x_4.toInt + 15) = x_4.toInt + (15) := by simp only [Int.add_assoc, Int.add_sub_assoc]
            have hr_32 := z_cell (lo := 10) (hi := 19) hbs_33 hi_hr_32 hid_hr_32 hl_hr_32 (by decide)
            replace hid_hr_32 : zEq (x_4.toInt + 15) (x_4.toInt + (15)) := hid_hr_32
            have hin_34 : vp_in x_31 (zn K (zr K a0 0)) := vp_in_iff.mpr (by rw [(hf_30.2.2 (by decide))]; exact hr_32.in)
            refine mld_40 C hs hP hf_30.1 hf_30.2.1 hin_34 dX12_status_105 ?_
            have ep_35 : x_31.toNatClampNeg = (x_4.toInt + 15).toNat := z_posE hi_hr_32
            rw [ep_35]
            refine lv_aload_n hx hb dX12_status_106 rfl (lv_at hl 1 rfl) ?_
            refine mg_0 C hs hP ha0 hk0 wf_X12_8 dX12_status_107 ?_
            refine lv_iload_n hx hb dX12_status_110 rfl (lv_at hl 0 rfl) ?_
            refine lv_bipush (v := 15) hx hb dX12_status_111 (by decide) ?_
            refine lv_iadd hx hb dX12_status_113 ?_
            refine lv_topi (fun x_36 ex_36 => ?_)
            refine lv_iconst (v := 1) hx hb dX12_status_114 (by decide) ?_
            refine lv_iadd hx hb dX12_status_115 ?_
            refine lv_topi (fun x_37 ex_37 => ?_)
            have hi_hr_38 : zEq x_37.toInt (x_4.toInt + 16) := by
              obtain ⟨f_36, l_36, u_36⟩ := z_add ex_36 rfl ti_15
              try replace f_36 : x_36.toInt = x_4.toInt + 15 := by omega
              clear l_36 u_36
              obtain ⟨f_37, l_37, u_37⟩ := z_add ex_37 rfl ti_1
              try replace f_37 : x_37.toInt = x_36.toInt + 1 := by omega
              clear l_37 u_37
              show x_37.toInt = (x_4.toInt + 16)
              omega
            have hl_hr_38 : (16 : Int) ≤ 16 ∧ 16 ≤ (16 : Int) := by decide
            have hid_hr_38 : (x_4.toInt + 16) = x_4.toInt + (16) := by simp only [Int.add_assoc, Int.add_sub_assoc]
            have hr_38 := z_cell (lo := 10) (hi := 19) hbs_33 hi_hr_38 hid_hr_38 hl_hr_38 (by decide)
            replace hid_hr_38 : zEq (x_4.toInt + 16) (x_4.toInt + (16)) := hid_hr_38
            have hin_39 : vp_in x_37 (zn K (zr K a0 0)) := vp_in_iff.mpr (by rw [(hf_30.2.2 (by decide))]; exact hr_38.in)
            refine mld_40 C hs hP hf_30.1 hf_30.2.1 hin_39 dX12_status_116 ?_
            have ep_40 : x_37.toNatClampNeg = (x_4.toInt + 16).toNat := z_posE hi_hr_38
            rw [ep_40]
            refine lv_iadd hx hb dX12_status_117 ?_
            refine lv_topi (fun x_41 ex_41 => ?_)
            exact zaS hQ hx hb hr hlk trivial dX12_status_118
          · have d_42 := c_29
            rcases Classical.em (x2.toInt = 4) with c_43 | c_43
            · refine lv_tableIn (tgt := 119) hx hb dX12_status_18 (by omega) (by omega) (by rw [c_43]; rfl) (by decide) ?_
              refine lv_aload_n hx hb dX12_status_119 rfl (lv_at hl 1 rfl) ?_
              refine mg_0 C hs hP ha0 hk0 wf_X12_8 dX12_status_120 ?_
              have hf_44 := hO.r (j := 0) ha0 hk0 (rfl : zX 11 0 = some (40, 47730))
              refine lv_iload_n hx hb dX12_status_123 rfl (lv_at hl 0 rfl) ?_
              refine lv_bipush (v := 10) hx hb dX12_status_124 (by decide) ?_
              refine lv_iadd hx hb dX12_status_126 ?_
              refine lv_topi (fun x_45 ex_45 => ?_)
              obtain ⟨f_4, l_4, u_4⟩ := z_mul ex_4 ti_1290 rfl
              try replace f_4 : x_4.toInt = 1290 * x1.toInt := by omega
              clear l_4 u_4
              have hbs_47 : zRow x_4.toInt := zRow.of (t := x1.toInt) (by omega) (by omega)
              have hbl_hbs_47 := hbs_47.lin
              have hi_hr_46 : zEq x_45.toInt (x_4.toInt + 10) := by
                obtain ⟨f_45, l_45, u_45⟩ := z_add ex_45 rfl ti_10
                try replace f_45 : x_45.toInt = x_4.toInt + 10 := by omega
                clear l_45 u_45
                show x_45.toInt = (x_4.toInt + 10)
                omega
              have hl_hr_46 : (10 : Int) ≤ 10 ∧ 10 ≤ (10 : Int) := by decide
              have hid_hr_46 : (x_4.toInt + 10) = x_4.toInt + (10) := by simp only [Int.add_assoc, Int.add_sub_assoc]
              have hr_46 := z_cell (lo := 10) (hi := 19) hbs_47 hi_hr_46 hid_hr_46 hl_hr_46 (by decide)
              replace hid_hr_46 : zEq (x_4.toInt + 10) (x_4.toInt + (10)) := hid_hr_46
              have hin_48 : vp_in x_45 (zn K (zr K a0 0)) := vp_in_iff.mpr (by rw [(hf_44.2.2 (by decide))]; exact hr_46.in)
              refine mld_40 C hs hP hf_44.1 hf_44.2.1 hin_48 dX12_status_127 ?_
              have ep_49 : x_45.toNatClampNeg = (x_4.toInt + 10).toNat := z_posE hi_hr_46
              rw [ep_49]
              exact zaS hQ hx hb hr hlk trivial dX12_status_128
            · have d_50 := c_43
              rcases Classical.em (x2.toInt = 5) with c_51 | c_51
              · refine lv_tableIn (tgt := 129) hx hb dX12_status_18 (by omega) (by omega) (by rw [c_51]; rfl) (by decide) ?_
                refine lv_aload_n hx hb dX12_status_129 rfl (lv_at hl 1 rfl) ?_
                refine mg_0 C hs hP ha0 hk0 wf_X12_8 dX12_status_130 ?_
                have hf_52 := hO.r (j := 0) ha0 hk0 (rfl : zX 11 0 = some (40, 47730))
                refine lv_iload_n hx hb dX12_status_133 rfl (lv_at hl 0 rfl) ?_
                refine lv_bipush (v := 11) hx hb dX12_status_134 (by decide) ?_
                refine lv_iadd hx hb dX12_status_136 ?_
                refine lv_topi (fun x_53 ex_53 => ?_)
                obtain ⟨f_4, l_4, u_4⟩ := z_mul ex_4 ti_1290 rfl
                try replace f_4 : x_4.toInt = 1290 * x1.toInt := by omega
                clear l_4 u_4
                have hbs_55 : zRow x_4.toInt := zRow.of (t := x1.toInt) (by omega) (by omega)
                have hbl_hbs_55 := hbs_55.lin
                have hi_hr_54 : zEq x_53.toInt (x_4.toInt + 11) := by
                  obtain ⟨f_53, l_53, u_53⟩ := z_add ex_53 rfl ti_11
                  try replace f_53 : x_53.toInt = x_4.toInt + 11 := by omega
                  clear l_53 u_53
                  show x_53.toInt = (x_4.toInt + 11)
                  omega
                have hl_hr_54 : (11 : Int) ≤ 11 ∧ 11 ≤ (11 : Int) := by decide
                have hid_hr_54 : (x_4.toInt + 11) = x_4.toInt + (11) := by simp only [Int.add_assoc, Int.add_sub_assoc]
                have hr_54 := z_cell (lo := 10) (hi := 19) hbs_55 hi_hr_54 hid_hr_54 hl_hr_54 (by decide)
                replace hid_hr_54 : zEq (x_4.toInt + 11) (x_4.toInt + (11)) := hid_hr_54
                have hin_56 : vp_in x_53 (zn K (zr K a0 0)) := vp_in_iff.mpr (by rw [(hf_52.2.2 (by decide))]; exact hr_54.in)
                refine mld_40 C hs hP hf_52.1 hf_52.2.1 hin_56 dX12_status_137 ?_
                have ep_57 : x_53.toNatClampNeg = (x_4.toInt + 11).toNat := z_posE hi_hr_54
                rw [ep_57]
                exact zaS hQ hx hb hr hlk trivial dX12_status_138
              · have d_58 := c_51
                rcases Classical.em (x2.toInt = 6) with c_59 | c_59
                · refine lv_tableIn (tgt := 139) hx hb dX12_status_18 (by omega) (by omega) (by rw [c_59]; rfl) (by decide) ?_
                  refine lv_aload_n hx hb dX12_status_139 rfl (lv_at hl 1 rfl) ?_
                  refine mg_0 C hs hP ha0 hk0 wf_X12_8 dX12_status_140 ?_
                  have hf_60 := hO.r (j := 0) ha0 hk0 (rfl : zX 11 0 = some (40, 47730))
                  refine lv_iload_n hx hb dX12_status_143 rfl (lv_at hl 0 rfl) ?_
                  refine lv_bipush (v := 12) hx hb dX12_status_144 (by decide) ?_
                  refine lv_iadd hx hb dX12_status_146 ?_
                  refine lv_topi (fun x_61 ex_61 => ?_)
                  obtain ⟨f_4, l_4, u_4⟩ := z_mul ex_4 ti_1290 rfl
                  try replace f_4 : x_4.toInt = 1290 * x1.toInt := by omega
                  clear l_4 u_4
                  have hbs_63 : zRow x_4.toInt := zRow.of (t := x1.toInt) (by omega) (by omega)
                  have hbl_hbs_63 := hbs_63.lin
                  have hi_hr_62 : zEq x_61.toInt (x_4.toInt + 12) := by
                    obtain ⟨f_61, l_61, u_61⟩ := z_add ex_61 rfl ti_12
                    try replace f_61 : x_61.toInt = x_4.toInt + 12 := by omega
                    clear l_61 u_61
                    show x_61.toInt = (x_4.toInt + 12)
                    omega
                  have hl_hr_62 : (12 : Int) ≤ 12 ∧ 12 ≤ (12 : Int) := by decide
                  have hid_hr_62 : (x_4.toInt + 12) = x_4.toInt + (12) := by simp only [Int.add_assoc, Int.add_sub_assoc]
                  have hr_62 := z_cell (lo := 10) (hi := 19) hbs_63 hi_hr_62 hid_hr_62 hl_hr_62 (by decide)
                  replace hid_hr_62 : zEq (x_4.toInt + 12) (x_4.toInt + (12)) := hid_hr_62
                  have hin_64 : vp_in x_61 (zn K (zr K a0 0)) := vp_in_iff.mpr (by rw [(hf_60.2.2 (by decide))]; exact hr_62.in)
                  refine mld_40 C hs hP hf_60.1 hf_60.2.1 hin_64 dX12_status_147 ?_
                  have ep_65 : x_61.toNatClampNeg = (x_4.toInt + 12).toNat := z_posE hi_hr_62
                  rw [ep_65]
                  exact zaS hQ hx hb hr hlk trivial dX12_status_148
                · have d_66 := c_59
                  rcases Classical.em (x2.toInt = 7) with c_67 | c_67
                  · refine lv_tableIn (tgt := 149) hx hb dX12_status_18 (by omega) (by omega) (by rw [c_67]; rfl) (by decide) ?_
                    refine lv_aload_n hx hb dX12_status_149 rfl (lv_at hl 1 rfl) ?_
                    refine mg_0 C hs hP ha0 hk0 wf_X12_8 dX12_status_150 ?_
                    have hf_68 := hO.r (j := 0) ha0 hk0 (rfl : zX 11 0 = some (40, 47730))
                    refine lv_iload_n hx hb dX12_status_153 rfl (lv_at hl 0 rfl) ?_
                    refine lv_bipush (v := 13) hx hb dX12_status_154 (by decide) ?_
                    refine lv_iadd hx hb dX12_status_156 ?_
                    refine lv_topi (fun x_69 ex_69 => ?_)
                    obtain ⟨f_4, l_4, u_4⟩ := z_mul ex_4 ti_1290 rfl
                    try replace f_4 : x_4.toInt = 1290 * x1.toInt := by omega
                    clear l_4 u_4
                    have hbs_71 : zRow x_4.toInt := zRow.of (t := x1.toInt) (by omega) (by omega)
                    have hbl_hbs_71 := hbs_71.lin
                    have hi_hr_70 : zEq x_69.toInt (x_4.toInt + 13) := by
                      obtain ⟨f_69, l_69, u_69⟩ := z_add ex_69 rfl ti_13
                      try replace f_69 : x_69.toInt = x_4.toInt + 13 := by omega
                      clear l_69 u_69
                      show x_69.toInt = (x_4.toInt + 13)
                      omega
                    have hl_hr_70 : (13 : Int) ≤ 13 ∧ 13 ≤ (13 : Int) := by decide
                    have hid_hr_70 : (x_4.toInt + 13) = x_4.toInt + (13) := by simp only [Int.add_assoc, Int.add_sub_assoc]
                    have hr_70 := z_cell (lo := 10) (hi := 19) hbs_71 hi_hr_70 hid_hr_70 hl_hr_70 (by decide)
                    replace hid_hr_70 : zEq (x_4.toInt + 13) (x_4.toInt + (13)) := hid_hr_70
                    have hin_72 : vp_in x_69 (zn K (zr K a0 0)) := vp_in_iff.mpr (by rw [(hf_68.2.2 (by decide))]; exact hr_70.in)
                    refine mld_40 C hs hP hf_68.1 hf_68.2.1 hin_72 dX12_status_157 ?_
                    have ep_73 : x_69.toNatClampNeg = (x_4.toInt + 13).toNat := z_posE hi_hr_70
                    rw [ep_73]
                    exact zaS hQ hx hb hr hlk trivial dX12_status_158
                  · have d_74 := c_67
                    rcases Classical.em (x2.toInt = 8) with c_75 | c_75
                    · refine lv_tableIn (tgt := 159) hx hb dX12_status_18 (by omega) (by omega) (by rw [c_75]; rfl) (by decide) ?_
                      refine lv_aload_n hx hb dX12_status_159 rfl (lv_at hl 1 rfl) ?_
                      refine mg_2 C hs hP ha0 hk0 wf_X12_18 dX12_status_160 ?_
                      have hf_76 := hO.r (j := 2) ha0 hk0 (rfl : zX 11 2 = some (42, 4))
                      refine lv_iload_n hx hb dX12_status_163 rfl (lv_at hl 2 rfl) ?_
                      have hin_77 : vp_in x1 (zn K (zr K a0 2)) := vp_in_iff.mpr (by rw [(hf_76.2.2 (by decide))]; refine ⟨?_, ?_⟩ <;> omega)
                      refine mld_42 C hs hP hf_76.1 hf_76.2.1 hin_77 dX12_status_164 ?_
                      have tv_78 := ra_42 hT (vp_in_iff.mp hin_77).1 (by have h7 := (vp_in_iff.mp hin_77).2; rw [(hf_76.2.2 (by decide))] at h7; exact h7)
                      exact zaS hQ hx hb hr hlk trivial dX12_status_165
                    · have d_79 := c_75
                      refine lv_tableOut (tgt := 166) hx hb dX12_status_18 (by omega) (by decide) ?_
                      refine lv_bipush (v := (-3)) hx hb dX12_status_166 (by decide) ?_
                      exact zaS hQ hx hb hr hlk trivial dX12_status_168
  · skip
    clear pp_1
    refine lv_bipush (v := (-2)) hx hb dX12_status_8 (by decide) ?_
    exact zaS hQ hx hb hr hlk trivial dX12_status_10
set_option maxHeartbeats 4000000 in
set_option maxRecDepth 100000 in
theorem c_X12_hand (l : Launch) (D : va_G) (K : zK) (hM : mK K) (f : Nat → Int32) (A : Nat → Nat → Int32) (hT : mT f A) (a0 : Nat) (ha0 : a0 ∈ zl K) (hk0 : zk K a0 = 11) (x1 : Int32) (x2 : Int32) (x3 : Int32) : Met l yX12_hand (zc yX12_hand cX12_hand 5 (some .int)) (rmd 2) (va_Pc [.ref a0, .int x1, .int x2, .int x3] (zB D K (mV K f A))) (vp_Si (fun r => True)) 0 0 (fun _ => False) := by
  refine zin (by decide) (Nat.le_of_ble_eq_true rfl) ?_
  intro p e s m args below meth c ls Q hQ C hr hlk hP hs hl
  have C : CallFix p m c cX12_hand 5 s args zw RX12 := C
  obtain ⟨hx, hb, hml, hown, hts⟩ := id C
  have hO := hM.1
  have hS : va_S (zA K) s.heap s.heap [] := va_S.rf
  have hl : lv_has ls 5 [(0, .ref a0), (1, .int x1), (2, .int x2), (3, .int x3)] := hl
  refine lv_aload_n hx hb dX12_hand_0 rfl (lv_at hl 0 rfl) ?_
  refine lv_iload_n hx hb dX12_hand_1 rfl (lv_at hl 1 rfl) ?_
  refine zcS (zrV (As := [.int x1]) (b := a0) (rest := []) C hs hP hS (c_X12_isTable l D K hM f A hT a0 ha0 hk0 x1) m_X12_isTable wm_X12_107 (zrecv hs hP ha0 (zF_11 hk0) rfl) ⟨by decide, by decide⟩ hl.1 (Nat.le_of_ble_eq_true rfl) dX12_hand_2) (fun x_1 p_1 => ?_)
  have pp_1 : (x_1.toInt ≠ 0 → 0 ≤ x1.toInt ∧ x1.toInt ≤ 3) := p_1.2
  have g_2 := z_rng x1
  refine bz_eq (tgt := 15) hx hb rfl dX12_hand_5 (by decide) (fun c_3 => ?_) (fun c_3 => ?_)
  · skip
    clear pp_1
    refine lv_bipush (v := (-2)) hx hb dX12_hand_15 (by decide) ?_
    exact zaS hQ hx hb hr hlk trivial dX12_hand_17
  · skip
    replace pp_1 := pp_1 c_3
    refine lv_iload_n hx hb dX12_hand_8 rfl (lv_at hl 2 rfl) ?_
    refine zcS (zrS (As := [.int x2]) (rest := []) C hs hP hS (c_X12_isSeat l D K hM f A hT x2) m_X12_isSeat wm_X12_110 ⟨by decide, by decide⟩ hl.1 (Nat.le_of_ble_eq_true rfl) dX12_hand_9) (fun x_4 p_4 => ?_)
    have pp_4 : (x_4.toInt ≠ 0 → 0 ≤ x2.toInt ∧ x2.toInt ≤ 3) ∧ (x_4.toInt = 0 → x2.toInt < 0 ∨ 3 < x2.toInt) := p_4.2
    have g_5 := z_rng x2
    refine bz_ne (tgt := 18) hx hb rfl dX12_hand_12 (by decide) (fun c_6 => ?_) (fun c_6 => ?_)
    · skip
      replace pp_4 := pp_4.1 c_6
      refine lv_aload_n hx hb dX12_hand_18 rfl (lv_at hl 0 rfl) ?_
      refine mg_0 C hs hP ha0 hk0 wf_X12_8 dX12_hand_19 ?_
      have hf_7 := hO.r (j := 0) ha0 hk0 (rfl : zX 11 0 = some (40, 47730))
      refine lv_sipush (v := 1290) hx hb dX12_hand_22 (by decide) ?_
      refine lv_iload_n hx hb dX12_hand_25 rfl (lv_at hl 1 rfl) ?_
      refine lv_imul hx hb dX12_hand_26 ?_
      refine lv_topi (fun x_8 ex_8 => ?_)
      refine lv_bipush (v := 22) hx hb dX12_hand_27 (by decide) ?_
      refine lv_iadd hx hb dX12_hand_29 ?_
      refine lv_topi (fun x_9 ex_9 => ?_)
      refine lv_iload_n hx hb dX12_hand_30 rfl (lv_at hl 2 rfl) ?_
      refine lv_iadd hx hb dX12_hand_31 ?_
      refine lv_topi (fun x_10 ex_10 => ?_)
      obtain ⟨f_8, l_8, u_8⟩ := z_mul ex_8 ti_1290 rfl
      try replace f_8 : x_8.toInt = 1290 * x1.toInt := by omega
      clear l_8 u_8
      have hbs_12 : zRow x_8.toInt := zRow.of (t := x1.toInt) (by omega) (by omega)
      have hbl_hbs_12 := hbs_12.lin
      have hi_hr_11 : zEq x_10.toInt (x_8.toInt + x2.toInt + 22) := by
        obtain ⟨f_9, l_9, u_9⟩ := z_add ex_9 rfl ti_22
        try replace f_9 : x_9.toInt = x_8.toInt + 22 := by omega
        clear l_9 u_9
        obtain ⟨f_10, l_10, u_10⟩ := z_add ex_10 rfl rfl
        try replace f_10 : x_10.toInt = x_9.toInt + x2.toInt := by omega
        clear l_10 u_10
        show x_10.toInt = (x_8.toInt + x2.toInt + 22)
        omega
      have hl_hr_11 : 22 ≤ x2.toInt + 22 ∧ x2.toInt + 22 ≤ 25 := by
        omega
      have hid_hr_11 : (x_8.toInt + x2.toInt + 22) = x_8.toInt + (x2.toInt + 22) := by simp only [Int.add_assoc, Int.add_sub_assoc]
      have hr_11 := z_cell (lo := 22) (hi := 25) hbs_12 hi_hr_11 hid_hr_11 hl_hr_11 (by decide)
      replace hid_hr_11 : zEq (x_8.toInt + x2.toInt + 22) (x_8.toInt + (x2.toInt + 22)) := hid_hr_11
      have hin_13 : vp_in x_10 (zn K (zr K a0 0)) := vp_in_iff.mpr (by rw [(hf_7.2.2 (by decide))]; exact hr_11.in)
      refine mld_40 C hs hP hf_7.1 hf_7.2.1 hin_13 dX12_hand_32 ?_
      have ep_14 : x_10.toNatClampNeg = (x_8.toInt + x2.toInt + 22).toNat := z_posE hi_hr_11
      rw [ep_14]
      have tv_15 := rv_22 hT hr_11
      rw [ep_14] at tv_15
      refine lv_istore (lv' := [(4, .int (A 40 (x_8.toInt + x2.toInt + 22).toNat)), (0, .ref a0), (1, .int x1), (2, .int x2), (3, .int x3)]) hx hb dX12_hand_33 hl (by decide) rfl (fun ls hl => ?_)
      refine lv_iload hx hb dX12_hand_35 (lv_at hl 0 rfl) ?_
      refine lv_iconst (v := (-1)) hx hb dX12_hand_37 (by decide) ?_
      refine bi_ne (tgt := 46) hx hb rfl ti_m1 dX12_hand_38 (by decide) (fun c_16 => ?_) (fun c_16 => ?_)
      · skip
        refine lv_iload_n hx hb dX12_hand_46 rfl (lv_at hl 4 rfl) ?_
        refine lv_iconst (v := 0) hx hb dX12_hand_47 (by decide) ?_
        refine lv_iload hx hb dX12_hand_48 (lv_at hl 0 rfl) ?_
        refine lv_iconst (v := 1) hx hb dX12_hand_50 (by decide) ?_
        refine lv_isub hx hb dX12_hand_51 ?_
        refine lv_topi (fun x_17 ex_17 => ?_)
        refine zcS (zrS (As := [.int x3, .int 0, .int x_17]) (rest := []) C hs hP hS (c_X12_in l D K hM f A hT x3 0 x_17) m_X12_in wm_X12_91 ⟨by decide, by decide⟩ hl.1 (Nat.le_of_ble_eq_true rfl) dX12_hand_52) (fun x_18 p_18 => ?_)
        have pp_18 : (x_18.toInt ≠ 0 → (0 : Int32).toInt ≤ x3.toInt ∧ x3.toInt ≤ x_17.toInt) ∧ (x_18.toInt = 0 → x3.toInt < (0 : Int32).toInt ∨ x_17.toInt < x3.toInt) := p_18.2
        try simp only [ti_0] at pp_18
        have g_19 := z_rng x3
        have g_20 := z_rng (A 40 (x_8.toInt + x2.toInt + 22).toNat)
        obtain ⟨f_17, l_17, u_17⟩ := z_sub ex_17 rfl ti_1
        try replace f_17 : x_17.toInt = (A 40 (x_8.toInt + x2.toInt + 22).toNat).toInt - 1 := by omega
        clear l_17 u_17
        refine bz_eq (tgt := 82) hx hb rfl dX12_hand_55 (by decide) (fun c_21 => ?_) (fun c_21 => ?_)
        · skip
          replace pp_18 := pp_18.2 c_21
          refine lv_iconst (v := (-1)) hx hb dX12_hand_82 (by decide) ?_
          exact zaS hQ hx hb hr hlk trivial dX12_hand_83
        · skip
          replace pp_18 := pp_18.1 c_21
          refine lv_aload_n hx hb dX12_hand_58 rfl (lv_at hl 1 rfl) ?_
          refine mg_0 C hs hP ha0 hk0 wf_X12_8 dX12_hand_59 ?_
          refine lv_sipush (v := 1290) hx hb dX12_hand_62 (by decide) ?_
          refine lv_iload_n hx hb dX12_hand_65 rfl (lv_at hl 2 rfl) ?_
          refine lv_imul hx hb dX12_hand_66 ?_
          refine lv_topi (fun x_22 ex_22 => ?_)
          refine lv_sipush (v := 230) hx hb dX12_hand_67 (by decide) ?_
          refine lv_iadd hx hb dX12_hand_70 ?_
          refine lv_topi (fun x_23 ex_23 => ?_)
          refine lv_bipush (v := 60) hx hb dX12_hand_71 (by decide) ?_
          refine lv_iload_n hx hb dX12_hand_73 rfl (lv_at hl 3 rfl) ?_
          refine lv_imul hx hb dX12_hand_74 ?_
          refine lv_topi (fun x_24 ex_24 => ?_)
          refine lv_iadd hx hb dX12_hand_75 ?_
          refine lv_topi (fun x_25 ex_25 => ?_)
          refine lv_iload_n hx hb dX12_hand_76 rfl (lv_at hl 4 rfl) ?_
          refine lv_iadd hx hb dX12_hand_77 ?_
          refine lv_topi (fun x_26 ex_26 => ?_)
          obtain ⟨f_22, l_22, u_22⟩ := z_mul ex_22 ti_1290 rfl
          try replace f_22 : x_22.toInt = 1290 * x1.toInt := by omega
          clear l_22 u_22
          have hbs_28 : zRow x_22.toInt := zRow.of (t := x1.toInt) (by omega) (by omega)
          have hbl_hbs_28 := hbs_28.lin
          have hi_hr_27 : zEq x_26.toInt (x_22.toInt + 60 * x2.toInt + x3.toInt + 230) := by
            obtain ⟨f_23, l_23, u_23⟩ := z_add ex_23 rfl ti_230
            try replace f_23 : x_23.toInt = x_22.toInt + 230 := by omega
            clear l_23 u_23
            obtain ⟨f_24, l_24, u_24⟩ := z_mul ex_24 ti_60 rfl
            try replace f_24 : x_24.toInt = 60 * x2.toInt := by omega
            clear l_24 u_24
            obtain ⟨f_25, l_25, u_25⟩ := z_add ex_25 rfl rfl
            try replace f_25 : x_25.toInt = x_23.toInt + x_24.toInt := by omega
            clear l_25 u_25
            obtain ⟨f_26, l_26, u_26⟩ := z_add ex_26 rfl rfl
            try replace f_26 : x_26.toInt = x_25.toInt + x3.toInt := by omega
            clear l_26 u_26
            show x_26.toInt = (x_22.toInt + 60 * x2.toInt + x3.toInt + 230)
            omega
          have hl_hr_27 : 230 ≤ 60 * x2.toInt + x3.toInt + 230 ∧ 60 * x2.toInt + x3.toInt + 230 ≤ 469 := by
            omega
          have hid_hr_27 : (x_22.toInt + 60 * x2.toInt + x3.toInt + 230) = x_22.toInt + (60 * x2.toInt + x3.toInt + 230) := by simp only [Int.add_assoc, Int.add_sub_assoc]
          have hr_27 := z_cell (lo := 170) (hi := 469) hbs_28 hi_hr_27 hid_hr_27 hl_hr_27 (by decide)
          replace hid_hr_27 : zEq (x_22.toInt + 60 * x2.toInt + x3.toInt + 230) (x_22.toInt + (60 * x2.toInt + x3.toInt + 230)) := hid_hr_27
          have hin_29 : vp_in x_26 (zn K (zr K a0 0)) := vp_in_iff.mpr (by rw [(hf_7.2.2 (by decide))]; exact hr_27.in)
          refine mld_40 C hs hP hf_7.1 hf_7.2.1 hin_29 dX12_hand_78 ?_
          have ep_30 : x_26.toNatClampNeg = (x_22.toInt + 60 * x2.toInt + x3.toInt + 230).toNat := z_posE hi_hr_27
          rw [ep_30]
          have tv_31 := rv_170 hT hr_27
          rw [ep_30] at tv_31
          refine lv_goto (tgt := 83) hx hb dX12_hand_79 (by decide) ?_
          exact zaS hQ hx hb hr hlk trivial dX12_hand_83
      · skip
        refine lv_bipush (v := (-12)) hx hb dX12_hand_41 (by decide) ?_
        refine lv_goto (tgt := 83) hx hb dX12_hand_43 (by decide) ?_
        exact zaS hQ hx hb hr hlk trivial dX12_hand_83
    · skip
      replace pp_4 := pp_4.2 c_6
      refine lv_bipush (v := (-2)) hx hb dX12_hand_15 (by decide) ?_
      exact zaS hQ hx hb hr hlk trivial dX12_hand_17
set_option maxHeartbeats 4000000 in
set_option maxRecDepth 100000 in
theorem c_X12_won (l : Launch) (D : va_G) (K : zK) (hM : mK K) (f : Nat → Int32) (A : Nat → Nat → Int32) (hT : mT f A) (a0 : Nat) (ha0 : a0 ∈ zl K) (hk0 : zk K a0 = 11) (x1 : Int32) (x2 : Int32) (x3 : Int32) : Met l yX12_won (zc yX12_won cX12_won 7 (some .int)) (rmd 2) (va_Pc [.ref a0, .int x1, .int x2, .int x3] (zB D K (mV K f A))) (vp_Si (fun r => True)) 0 0 (fun _ => False) := by
  refine zin (by decide) (Nat.le_of_ble_eq_true rfl) ?_
  intro p e s m args below meth c ls Q hQ C hr hlk hP hs hl
  have C : CallFix p m c cX12_won 7 s args zw RX12 := C
  obtain ⟨hx, hb, hml, hown, hts⟩ := id C
  have hO := hM.1
  have hS : va_S (zA K) s.heap s.heap [] := va_S.rf
  have hl : lv_has ls 7 [(0, .ref a0), (1, .int x1), (2, .int x2), (3, .int x3)] := hl
  refine lv_aload_n hx hb dX12_won_0 rfl (lv_at hl 0 rfl) ?_
  refine lv_iload_n hx hb dX12_won_1 rfl (lv_at hl 1 rfl) ?_
  refine zcS (zrV (As := [.int x1]) (b := a0) (rest := []) C hs hP hS (c_X12_isTable l D K hM f A hT a0 ha0 hk0 x1) m_X12_isTable wm_X12_107 (zrecv hs hP ha0 (zF_11 hk0) rfl) ⟨by decide, by decide⟩ hl.1 (Nat.le_of_ble_eq_true rfl) dX12_won_2) (fun x_1 p_1 => ?_)
  have pp_1 : (x_1.toInt ≠ 0 → 0 ≤ x1.toInt ∧ x1.toInt ≤ 3) := p_1.2
  have g_2 := z_rng x1
  refine bz_eq (tgt := 17) hx hb rfl dX12_won_5 (by decide) (fun c_3 => ?_) (fun c_3 => ?_)
  · skip
    clear pp_1
    refine lv_bipush (v := (-2)) hx hb dX12_won_17 (by decide) ?_
    exact zaS hQ hx hb hr hlk trivial dX12_won_19
  · skip
    replace pp_1 := pp_1 c_3
    refine lv_iload_n hx hb dX12_won_8 rfl (lv_at hl 2 rfl) ?_
    refine lv_iconst (v := 0) hx hb dX12_won_9 (by decide) ?_
    refine lv_iconst (v := 1) hx hb dX12_won_10 (by decide) ?_
    refine zcS (zrS (As := [.int x2, .int 0, .int 1]) (rest := []) C hs hP hS (c_X12_in l D K hM f A hT x2 0 1) m_X12_in wm_X12_91 ⟨by decide, by decide⟩ hl.1 (Nat.le_of_ble_eq_true rfl) dX12_won_11) (fun x_4 p_4 => ?_)
    have pp_4 : (x_4.toInt ≠ 0 → (0 : Int32).toInt ≤ x2.toInt ∧ x2.toInt ≤ (1 : Int32).toInt) ∧ (x_4.toInt = 0 → x2.toInt < (0 : Int32).toInt ∨ (1 : Int32).toInt < x2.toInt) := p_4.2
    try simp only [ti_0, ti_1] at pp_4
    have g_5 := z_rng x2
    refine bz_ne (tgt := 20) hx hb rfl dX12_won_14 (by decide) (fun c_6 => ?_) (fun c_6 => ?_)
    · skip
      replace pp_4 := pp_4.1 c_6
      refine lv_iload_n hx hb dX12_won_20 rfl (lv_at hl 3 rfl) ?_
      refine lv_iconst (v := 0) hx hb dX12_won_21 (by decide) ?_
      refine lv_iconst (v := 2) hx hb dX12_won_22 (by decide) ?_
      refine zcS (zrS (As := [.int x3, .int 0, .int 2]) (rest := []) C hs hP hS (c_X12_in l D K hM f A hT x3 0 2) m_X12_in wm_X12_91 ⟨by decide, by decide⟩ hl.1 (Nat.le_of_ble_eq_true rfl) dX12_won_23) (fun x_7 p_7 => ?_)
      have pp_7 : (x_7.toInt ≠ 0 → (0 : Int32).toInt ≤ x3.toInt ∧ x3.toInt ≤ (2 : Int32).toInt) ∧ (x_7.toInt = 0 → x3.toInt < (0 : Int32).toInt ∨ (2 : Int32).toInt < x3.toInt) := p_7.2
      try simp only [ti_0, ti_2] at pp_7
      have g_8 := z_rng x3
      refine bz_ne (tgt := 32) hx hb rfl dX12_won_26 (by decide) (fun c_9 => ?_) (fun c_9 => ?_)
      · skip
        replace pp_7 := pp_7.1 c_9
        refine lv_sipush (v := 1290) hx hb dX12_won_32 (by decide) ?_
        refine lv_iload_n hx hb dX12_won_35 rfl (lv_at hl 1 rfl) ?_
        refine lv_imul hx hb dX12_won_36 ?_
        refine lv_topi (fun x_10 ex_10 => ?_)
        refine lv_istore (lv' := [(4, .int x_10), (0, .ref a0), (1, .int x1), (2, .int x2), (3, .int x3)]) hx hb dX12_won_37 hl (by decide) rfl (fun ls hl => ?_)
        refine lv_iconst (v := 0) hx hb dX12_won_39 (by decide) ?_
        refine lv_istore (lv' := [(5, .int 0), (4, .int x_10), (0, .ref a0), (1, .int x1), (2, .int x2), (3, .int x3)]) hx hb dX12_won_40 hl (by decide) rfl (fun ls hl => ?_)
        refine lv_iconst (v := 0) hx hb dX12_won_42 (by decide) ?_
        refine lv_istore (lv' := [(6, .int 0), (5, .int 0), (4, .int x_10), (0, .ref a0), (1, .int x1), (2, .int x2), (3, .int x3)]) hx hb dX12_won_43 hl (by decide) rfl (fun ls hl => ?_)
        have L_45_13 : ∀ (n_13 : Nat) (y_11 : Int32) (y_12 : Int32) (ls : Array Slot), (2147483648 - y_11.toInt).toNat < n_13 → 0 ≤ y_11.toInt → lv_has ls 7 [(6, .int y_11), (5, .int y_12), (4, .int x_10), (0, .ref a0), (1, .int x1), (2, .int x2), (3, .int x3)] → W p l e (rmd 2) s m args below meth c s.heap [] 0 0 Q (F0 m 45 ls []) := by
          intro n_13
          induction n_13 with
          | zero => intro y_11 y_12 ls hm_13; exact absurd hm_13 (Nat.not_lt_zero _)
          | succ n_13 ih_13 =>
            intro y_11 y_12 ls hm_13 iv_14_0 hl
            refine lv_iload hx hb dX12_won_45 (lv_at hl 0 rfl) ?_
            refine lv_aload_n hx hb dX12_won_47 rfl (lv_at hl 3 rfl) ?_
            refine mg_0 C hs hP ha0 hk0 wf_X12_8 dX12_won_48 ?_
            have hf_15 := hO.r (j := 0) ha0 hk0 (rfl : zX 11 0 = some (40, 47730))
            refine lv_iload hx hb dX12_won_51 (lv_at hl 2 rfl) ?_
            refine lv_iconst (v := 1) hx hb dX12_won_53 (by decide) ?_
            refine lv_iadd hx hb dX12_won_54 ?_
            refine lv_topi (fun x_16 ex_16 => ?_)
            obtain ⟨f_10, l_10, u_10⟩ := z_mul ex_10 ti_1290 rfl
            try replace f_10 : x_10.toInt = 1290 * x1.toInt := by omega
            clear l_10 u_10
            have hbs_18 : zRow x_10.toInt := zRow.of (t := x1.toInt) (by omega) (by omega)
            have hbl_hbs_18 := hbs_18.lin
            have hi_hr_17 : zEq x_16.toInt (x_10.toInt + 1) := by
              obtain ⟨f_16, l_16, u_16⟩ := z_add ex_16 rfl ti_1
              try replace f_16 : x_16.toInt = x_10.toInt + 1 := by omega
              clear l_16 u_16
              show x_16.toInt = (x_10.toInt + 1)
              omega
            have hl_hr_17 : (1 : Int) ≤ 1 ∧ 1 ≤ (1 : Int) := by decide
            have hid_hr_17 : (x_10.toInt + 1) = x_10.toInt + (1) := by simp only [Int.add_assoc, Int.add_sub_assoc]
            have hr_17 := z_cell (lo := 1) (hi := 1) hbs_18 hi_hr_17 hid_hr_17 hl_hr_17 (by decide)
            replace hid_hr_17 : zEq (x_10.toInt + 1) (x_10.toInt + (1)) := hid_hr_17
            have hin_19 : vp_in x_16 (zn K (zr K a0 0)) := vp_in_iff.mpr (by rw [(hf_15.2.2 (by decide))]; exact hr_17.in)
            refine mld_40 C hs hP hf_15.1 hf_15.2.1 hin_19 dX12_won_55 ?_
            have ep_20 : x_16.toNatClampNeg = (x_10.toInt + 1).toNat := z_posE hi_hr_17
            rw [ep_20]
            have tv_21 := rv_1 hT hr_17
            rw [ep_20] at tv_21
            refine bi_ge (tgt := 95) hx hb rfl rfl dX12_won_56 (by decide) (fun c_22 => ?_) (fun c_22 => ?_)
            · skip
              refine lv_iload_n hx hb dX12_won_95 rfl (lv_at hl 6 rfl) ?_
              refine bz_ne (tgt := 114) hx hb rfl dX12_won_96 (by decide) (fun c_38 => ?_) (fun c_38 => ?_)
              · skip
                refine lv_iload_n hx hb dX12_won_114 rfl (lv_at hl 6 rfl) ?_
                refine lv_iconst (v := 1) hx hb dX12_won_115 (by decide) ?_
                refine bi_ne (tgt := 134) hx hb rfl ti_1 dX12_won_116 (by decide) (fun c_39 => ?_) (fun c_39 => ?_)
                · skip
                  refine lv_iload hx hb dX12_won_134 (lv_at hl 1 rfl) ?_
                  exact zaS hQ hx hb hr hlk trivial dX12_won_136
                · skip
                  refine lv_aload_n hx hb dX12_won_119 rfl (lv_at hl 3 rfl) ?_
                  refine mg_0 C hs hP ha0 hk0 wf_X12_8 dX12_won_120 ?_
                  refine lv_iload hx hb dX12_won_123 (lv_at hl 2 rfl) ?_
                  refine lv_bipush (v := 17) hx hb dX12_won_125 (by decide) ?_
                  refine lv_iadd hx hb dX12_won_127 ?_
                  refine lv_topi (fun x_40 ex_40 => ?_)
                  refine lv_iload_n hx hb dX12_won_128 rfl (lv_at hl 5 rfl) ?_
                  refine lv_iadd hx hb dX12_won_129 ?_
                  refine lv_topi (fun x_41 ex_41 => ?_)
                  have hi_hr_42 : zEq x_41.toInt (x_10.toInt + x2.toInt + 17) := by
                    obtain ⟨f_40, l_40, u_40⟩ := z_add ex_40 rfl ti_17
                    try replace f_40 : x_40.toInt = x_10.toInt + 17 := by omega
                    clear l_40 u_40
                    obtain ⟨f_41, l_41, u_41⟩ := z_add ex_41 rfl rfl
                    try replace f_41 : x_41.toInt = x_40.toInt + x2.toInt := by omega
                    clear l_41 u_41
                    show x_41.toInt = (x_10.toInt + x2.toInt + 17)
                    omega
                  have hl_hr_42 : 17 ≤ x2.toInt + 17 ∧ x2.toInt + 17 ≤ 18 := by
                    omega
                  have hid_hr_42 : (x_10.toInt + x2.toInt + 17) = x_10.toInt + (x2.toInt + 17) := by simp only [Int.add_assoc, Int.add_sub_assoc]
                  have hr_42 := z_cell (lo := 10) (hi := 19) hbs_18 hi_hr_42 hid_hr_42 hl_hr_42 (by decide)
                  replace hid_hr_42 : zEq (x_10.toInt + x2.toInt + 17) (x_10.toInt + (x2.toInt + 17)) := hid_hr_42
                  have hin_43 : vp_in x_41 (zn K (zr K a0 0)) := vp_in_iff.mpr (by rw [(hf_15.2.2 (by decide))]; exact hr_42.in)
                  refine mld_40 C hs hP hf_15.1 hf_15.2.1 hin_43 dX12_won_130 ?_
                  have ep_44 : x_41.toNatClampNeg = (x_10.toInt + x2.toInt + 17).toNat := z_posE hi_hr_42
                  rw [ep_44]
                  refine lv_goto (tgt := 136) hx hb dX12_won_131 (by decide) ?_
                  exact zaS hQ hx hb hr hlk trivial dX12_won_136
              · skip
                refine lv_aload_n hx hb dX12_won_99 rfl (lv_at hl 3 rfl) ?_
                refine mg_0 C hs hP ha0 hk0 wf_X12_8 dX12_won_100 ?_
                refine lv_iload hx hb dX12_won_103 (lv_at hl 2 rfl) ?_
                refine lv_bipush (v := 15) hx hb dX12_won_105 (by decide) ?_
                refine lv_iadd hx hb dX12_won_107 ?_
                refine lv_topi (fun x_45 ex_45 => ?_)
                refine lv_iload_n hx hb dX12_won_108 rfl (lv_at hl 5 rfl) ?_
                refine lv_iadd hx hb dX12_won_109 ?_
                refine lv_topi (fun x_46 ex_46 => ?_)
                have hi_hr_47 : zEq x_46.toInt (x_10.toInt + x2.toInt + 15) := by
                  obtain ⟨f_45, l_45, u_45⟩ := z_add ex_45 rfl ti_15
                  try replace f_45 : x_45.toInt = x_10.toInt + 15 := by omega
                  clear l_45 u_45
                  obtain ⟨f_46, l_46, u_46⟩ := z_add ex_46 rfl rfl
                  try replace f_46 : x_46.toInt = x_45.toInt + x2.toInt := by omega
                  clear l_46 u_46
                  show x_46.toInt = (x_10.toInt + x2.toInt + 15)
                  omega
                have hl_hr_47 : 15 ≤ x2.toInt + 15 ∧ x2.toInt + 15 ≤ 16 := by
                  omega
                have hid_hr_47 : (x_10.toInt + x2.toInt + 15) = x_10.toInt + (x2.toInt + 15) := by simp only [Int.add_assoc, Int.add_sub_assoc]
                have hr_47 := z_cell (lo := 10) (hi := 19) hbs_18 hi_hr_47 hid_hr_47 hl_hr_47 (by decide)
                replace hid_hr_47 : zEq (x_10.toInt + x2.toInt + 15) (x_10.toInt + (x2.toInt + 15)) := hid_hr_47
                have hin_48 : vp_in x_46 (zn K (zr K a0 0)) := vp_in_iff.mpr (by rw [(hf_15.2.2 (by decide))]; exact hr_47.in)
                refine mld_40 C hs hP hf_15.1 hf_15.2.1 hin_48 dX12_won_110 ?_
                have ep_49 : x_46.toNatClampNeg = (x_10.toInt + x2.toInt + 15).toNat := z_posE hi_hr_47
                rw [ep_49]
                refine lv_goto (tgt := 136) hx hb dX12_won_111 (by decide) ?_
                exact zaS hQ hx hb hr hlk trivial dX12_won_136
            · skip
              refine lv_iload hx hb dX12_won_59 (lv_at hl 1 rfl) ?_
              refine lv_aload_n hx hb dX12_won_61 rfl (lv_at hl 3 rfl) ?_
              refine mg_0 C hs hP ha0 hk0 wf_X12_8 dX12_won_62 ?_
              refine lv_iload hx hb dX12_won_65 (lv_at hl 2 rfl) ?_
              refine lv_bipush (v := 110) hx hb dX12_won_67 (by decide) ?_
              refine lv_iadd hx hb dX12_won_69 ?_
              refine lv_topi (fun x_50 ex_50 => ?_)
              refine lv_iload hx hb dX12_won_70 (lv_at hl 0 rfl) ?_
              refine lv_iadd hx hb dX12_won_72 ?_
              refine lv_topi (fun x_51 ex_51 => ?_)
              have hi_hr_52 : zEq x_51.toInt (x_10.toInt + y_11.toInt + 110) := by
                obtain ⟨f_50, l_50, u_50⟩ := z_add ex_50 rfl ti_110
                try replace f_50 : x_50.toInt = x_10.toInt + 110 := by omega
                clear l_50 u_50
                have g_53 := z_rng y_11
                obtain ⟨f_51, l_51, u_51⟩ := z_add ex_51 rfl rfl
                try replace f_51 : x_51.toInt = x_50.toInt + y_11.toInt := by omega
                clear l_51 u_51
                show x_51.toInt = (x_10.toInt + y_11.toInt + 110)
                omega
              have hl_hr_52 : 110 ≤ y_11.toInt + 110 ∧ y_11.toInt + 110 ≤ 169 := by
                have g_54 := z_rng y_11
                omega
              have hid_hr_52 : (x_10.toInt + y_11.toInt + 110) = x_10.toInt + (y_11.toInt + 110) := by simp only [Int.add_assoc, Int.add_sub_assoc]
              have hr_52 := z_cell (lo := 45) (hi := 169) hbs_18 hi_hr_52 hid_hr_52 hl_hr_52 (by decide)
              replace hid_hr_52 : zEq (x_10.toInt + y_11.toInt + 110) (x_10.toInt + (y_11.toInt + 110)) := hid_hr_52
              have hin_55 : vp_in x_51 (zn K (zr K a0 0)) := vp_in_iff.mpr (by rw [(hf_15.2.2 (by decide))]; exact hr_52.in)
              refine mld_40 C hs hP hf_15.1 hf_15.2.1 hin_55 dX12_won_73 ?_
              have ep_56 : x_51.toNatClampNeg = (x_10.toInt + y_11.toInt + 110).toNat := z_posE hi_hr_52
              rw [ep_56]
              refine lv_bipush (v := 6) hx hb dX12_won_74 (by decide) ?_
              refine lv_iload_n hx hb dX12_won_76 rfl (lv_at hl 5 rfl) ?_
              refine lv_iadd hx hb dX12_won_77 ?_
              refine lv_topi (fun x_57 ex_57 => ?_)
              have J_86_60 : ∀ (y_59 : Int32) (ls : Array Slot), (y_59 = 0 ∨ y_59 = 1) → lv_has ls 7 [(0, .ref a0), (1, .int x1), (2, .int x2), (3, .int x3), (4, .int x_10), (5, .int y_12), (6, .int y_11)] → W p l e (rmd 2) s m args below meth c s.heap [] 0 0 Q (F0 m 86 ls [.int y_59, .int y_12]) := by
                intro y_59 ls hb_y_59 hl
                refine lv_iadd hx hb dX12_won_86 ?_
                refine lv_topi (fun x_62 ex_62 => ?_)
                refine lv_istore (lv' := [(5, .int x_62), (0, .ref a0), (1, .int x1), (2, .int x2), (3, .int x3), (4, .int x_10), (6, .int y_11)]) hx hb dX12_won_87 hl (by decide) rfl (fun ls hl => ?_)
                obtain ⟨x_63, ex_63⟩ : ∃ y : Int32, y = y_11 + 1 := ⟨_, rfl⟩
                refine lv_iinc (v := x_63) (lv' := [(6, .int x_63), (5, .int x_62), (0, .ref a0), (1, .int x1), (2, .int x2), (3, .int x3), (4, .int x_10)]) hx hb dX12_won_89 hl (k := 6) rfl (by rw [ex_63]; rfl) (by decide) rfl (fun ls hl => ?_)
                refine lv_goto (tgt := 45) hx hb dX12_won_92 (by decide) ?_
                have g_64 := z_rng y_11
                obtain ⟨f_63, l_63, u_63⟩ := z_add ex_63 rfl ti_1
                try replace f_63 : x_63.toInt = y_11.toInt + 1 := by omega
                clear l_63 u_63
                have g_65 := z_rng (A 40 (x_10.toInt + 1).toNat)
                exact ih_13 x_63 x_62 _ (by omega) (by omega) (lv_sub hl [0, 1, 6, 2, 3, 4, 5] rfl)
              refine bi_ne (tgt := 85) hx hb rfl rfl dX12_won_78 (by decide) (fun c_58 => ?_) (fun c_58 => ?_)
              · skip
                refine lv_iconst (v := 0) hx hb dX12_won_85 (by decide) ?_
                exact J_86_60 0 _ (Or.inl rfl) (lv_sub hl [3, 4, 5, 6, 2, 1, 0] rfl)
              · skip
                refine lv_iconst (v := 1) hx hb dX12_won_81 (by decide) ?_
                refine lv_goto (tgt := 86) hx hb dX12_won_82 (by decide) ?_
                exact J_86_60 1 _ (Or.inr rfl) (lv_sub hl [3, 4, 5, 6, 2, 1, 0] rfl)
        have g_66 := z_rng x_1
        have g_67 := z_rng x_4
        have g_68 := z_rng x_7
        exact L_45_13 _ 0 0 _ (Nat.lt_succ_self _) (by (try simp only [ti_0]); omega) (lv_sub hl [0, 1, 2, 3, 4, 5, 6] rfl)
      · skip
        replace pp_7 := pp_7.2 c_9
        refine lv_bipush (v := (-3)) hx hb dX12_won_29 (by decide) ?_
        exact zaS hQ hx hb hr hlk trivial dX12_won_31
    · skip
      replace pp_4 := pp_4.2 c_6
      refine lv_bipush (v := (-2)) hx hb dX12_won_17 (by decide) ?_
      exact zaS hQ hx hb hr hlk trivial dX12_won_19
set_option maxHeartbeats 4000000 in
set_option maxRecDepth 100000 in
theorem c_X12_revokes (l : Launch) (D : va_G) (K : zK) (hM : mK K) (f : Nat → Int32) (A : Nat → Nat → Int32) (hT : mT f A) (a0 : Nat) (ha0 : a0 ∈ zl K) (hk0 : zk K a0 = 11) (x1 : Int32) (x2 : Int32) (x3 : Int32) : Met l yX12_revokes (zc yX12_revokes cX12_revokes 7 (some .int)) (rmd 2) (va_Pc [.ref a0, .int x1, .int x2, .int x3] (zB D K (mV K f A))) (vp_Si (fun r => True)) 0 0 (fun _ => False) := by
  refine zin (by decide) (Nat.le_of_ble_eq_true rfl) ?_
  intro p e s m args below meth c ls Q hQ C hr hlk hP hs hl
  have C : CallFix p m c cX12_revokes 7 s args zw RX12 := C
  obtain ⟨hx, hb, hml, hown, hts⟩ := id C
  have hO := hM.1
  have hS : va_S (zA K) s.heap s.heap [] := va_S.rf
  have hl : lv_has ls 7 [(0, .ref a0), (1, .int x1), (2, .int x2), (3, .int x3)] := hl
  refine lv_aload_n hx hb dX12_revokes_0 rfl (lv_at hl 0 rfl) ?_
  refine lv_iload_n hx hb dX12_revokes_1 rfl (lv_at hl 1 rfl) ?_
  refine zcS (zrV (As := [.int x1]) (b := a0) (rest := []) C hs hP hS (c_X12_isTable l D K hM f A hT a0 ha0 hk0 x1) m_X12_isTable wm_X12_107 (zrecv hs hP ha0 (zF_11 hk0) rfl) ⟨by decide, by decide⟩ hl.1 (Nat.le_of_ble_eq_true rfl) dX12_revokes_2) (fun x_1 p_1 => ?_)
  have pp_1 : (x_1.toInt ≠ 0 → 0 ≤ x1.toInt ∧ x1.toInt ≤ 3) := p_1.2
  have g_2 := z_rng x1
  refine bz_eq (tgt := 15) hx hb rfl dX12_revokes_5 (by decide) (fun c_3 => ?_) (fun c_3 => ?_)
  · skip
    clear pp_1
    refine lv_bipush (v := (-2)) hx hb dX12_revokes_15 (by decide) ?_
    exact zaS hQ hx hb hr hlk trivial dX12_revokes_17
  · skip
    replace pp_1 := pp_1 c_3
    refine lv_iload_n hx hb dX12_revokes_8 rfl (lv_at hl 2 rfl) ?_
    refine zcS (zrS (As := [.int x2]) (rest := []) C hs hP hS (c_X12_isSeat l D K hM f A hT x2) m_X12_isSeat wm_X12_110 ⟨by decide, by decide⟩ hl.1 (Nat.le_of_ble_eq_true rfl) dX12_revokes_9) (fun x_4 p_4 => ?_)
    have pp_4 : (x_4.toInt ≠ 0 → 0 ≤ x2.toInt ∧ x2.toInt ≤ 3) ∧ (x_4.toInt = 0 → x2.toInt < 0 ∨ 3 < x2.toInt) := p_4.2
    have g_5 := z_rng x2
    refine bz_ne (tgt := 18) hx hb rfl dX12_revokes_12 (by decide) (fun c_6 => ?_) (fun c_6 => ?_)
    · skip
      replace pp_4 := pp_4.1 c_6
      refine lv_iload_n hx hb dX12_revokes_18 rfl (lv_at hl 3 rfl) ?_
      refine lv_iconst (v := 0) hx hb dX12_revokes_19 (by decide) ?_
      refine lv_iconst (v := 1) hx hb dX12_revokes_20 (by decide) ?_
      refine zcS (zrS (As := [.int x3, .int 0, .int 1]) (rest := []) C hs hP hS (c_X12_in l D K hM f A hT x3 0 1) m_X12_in wm_X12_91 ⟨by decide, by decide⟩ hl.1 (Nat.le_of_ble_eq_true rfl) dX12_revokes_21) (fun x_7 p_7 => ?_)
      have pp_7 : (x_7.toInt ≠ 0 → (0 : Int32).toInt ≤ x3.toInt ∧ x3.toInt ≤ (1 : Int32).toInt) ∧ (x_7.toInt = 0 → x3.toInt < (0 : Int32).toInt ∨ (1 : Int32).toInt < x3.toInt) := p_7.2
      try simp only [ti_0, ti_1] at pp_7
      have g_8 := z_rng x3
      refine bz_ne (tgt := 30) hx hb rfl dX12_revokes_24 (by decide) (fun c_9 => ?_) (fun c_9 => ?_)
      · skip
        replace pp_7 := pp_7.1 c_9
        refine lv_sipush (v := 1290) hx hb dX12_revokes_30 (by decide) ?_
        refine lv_iload_n hx hb dX12_revokes_33 rfl (lv_at hl 1 rfl) ?_
        refine lv_imul hx hb dX12_revokes_34 ?_
        refine lv_topi (fun x_10 ex_10 => ?_)
        refine lv_istore (lv' := [(4, .int x_10), (0, .ref a0), (1, .int x1), (2, .int x2), (3, .int x3)]) hx hb dX12_revokes_35 hl (by decide) rfl (fun ls hl => ?_)
        refine lv_iconst (v := 0) hx hb dX12_revokes_37 (by decide) ?_
        refine lv_istore (lv' := [(5, .int 0), (4, .int x_10), (0, .ref a0), (1, .int x1), (2, .int x2), (3, .int x3)]) hx hb dX12_revokes_38 hl (by decide) rfl (fun ls hl => ?_)
        refine lv_iconst (v := 0) hx hb dX12_revokes_40 (by decide) ?_
        refine lv_istore (lv' := [(6, .int 0), (5, .int 0), (4, .int x_10), (0, .ref a0), (1, .int x1), (2, .int x2), (3, .int x3)]) hx hb dX12_revokes_41 hl (by decide) rfl (fun ls hl => ?_)
        have L_43_13 : ∀ (n_13 : Nat) (y_11 : Int32) (y_12 : Int32) (ls : Array Slot), (2147483648 - y_11.toInt).toNat < n_13 → 0 ≤ y_11.toInt → lv_has ls 7 [(6, .int y_11), (5, .int y_12), (4, .int x_10), (0, .ref a0), (1, .int x1), (2, .int x2), (3, .int x3)] → W p l e (rmd 2) s m args below meth c s.heap [] 0 0 Q (F0 m 43 ls []) := by
          intro n_13
          induction n_13 with
          | zero => intro y_11 y_12 ls hm_13; exact absurd hm_13 (Nat.not_lt_zero _)
          | succ n_13 ih_13 =>
            intro y_11 y_12 ls hm_13 iv_14_0 hl
            refine lv_iload hx hb dX12_revokes_43 (lv_at hl 0 rfl) ?_
            refine lv_aload_n hx hb dX12_revokes_45 rfl (lv_at hl 3 rfl) ?_
            refine mg_0 C hs hP ha0 hk0 wf_X12_8 dX12_revokes_46 ?_
            have hf_15 := hO.r (j := 0) ha0 hk0 (rfl : zX 11 0 = some (40, 47730))
            refine lv_iload hx hb dX12_revokes_49 (lv_at hl 2 rfl) ?_
            refine lv_bipush (v := 43) hx hb dX12_revokes_51 (by decide) ?_
            refine lv_iadd hx hb dX12_revokes_53 ?_
            refine lv_topi (fun x_16 ex_16 => ?_)
            obtain ⟨f_10, l_10, u_10⟩ := z_mul ex_10 ti_1290 rfl
            try replace f_10 : x_10.toInt = 1290 * x1.toInt := by omega
            clear l_10 u_10
            have hbs_18 : zRow x_10.toInt := zRow.of (t := x1.toInt) (by omega) (by omega)
            have hbl_hbs_18 := hbs_18.lin
            have hi_hr_17 : zEq x_16.toInt (x_10.toInt + 43) := by
              obtain ⟨f_16, l_16, u_16⟩ := z_add ex_16 rfl ti_43
              try replace f_16 : x_16.toInt = x_10.toInt + 43 := by omega
              clear l_16 u_16
              show x_16.toInt = (x_10.toInt + 43)
              omega
            have hl_hr_17 : (43 : Int) ≤ 43 ∧ 43 ≤ (43 : Int) := by decide
            have hid_hr_17 : (x_10.toInt + 43) = x_10.toInt + (43) := by simp only [Int.add_assoc, Int.add_sub_assoc]
            have hr_17 := z_cell (lo := 43) (hi := 43) hbs_18 hi_hr_17 hid_hr_17 hl_hr_17 (by decide)
            replace hid_hr_17 : zEq (x_10.toInt + 43) (x_10.toInt + (43)) := hid_hr_17
            have hin_19 : vp_in x_16 (zn K (zr K a0 0)) := vp_in_iff.mpr (by rw [(hf_15.2.2 (by decide))]; exact hr_17.in)
            refine mld_40 C hs hP hf_15.1 hf_15.2.1 hin_19 dX12_revokes_54 ?_
            have ep_20 : x_16.toNatClampNeg = (x_10.toInt + 43).toNat := z_posE hi_hr_17
            rw [ep_20]
            have tv_21 := rv_43 hT hr_17
            rw [ep_20] at tv_21
            refine bi_ge (tgt := 114) hx hb rfl rfl dX12_revokes_55 (by decide) (fun c_22 => ?_) (fun c_22 => ?_)
            · skip
              refine lv_iload hx hb dX12_revokes_114 (lv_at hl 1 rfl) ?_
              exact zaS hQ hx hb hr hlk trivial dX12_revokes_116
            · skip
              refine lv_iload hx hb dX12_revokes_58 (lv_at hl 1 rfl) ?_
              refine lv_aload_n hx hb dX12_revokes_60 rfl (lv_at hl 3 rfl) ?_
              refine mg_0 C hs hP ha0 hk0 wf_X12_8 dX12_revokes_61 ?_
              refine lv_iload hx hb dX12_revokes_64 (lv_at hl 2 rfl) ?_
              refine lv_sipush (v := 650) hx hb dX12_revokes_66 (by decide) ?_
              refine lv_iadd hx hb dX12_revokes_69 ?_
              refine lv_topi (fun x_23 ex_23 => ?_)
              refine lv_iload hx hb dX12_revokes_70 (lv_at hl 0 rfl) ?_
              refine lv_iadd hx hb dX12_revokes_72 ?_
              refine lv_topi (fun x_24 ex_24 => ?_)
              have hi_hr_25 : zEq x_24.toInt (x_10.toInt + y_11.toInt + 650) := by
                obtain ⟨f_23, l_23, u_23⟩ := z_add ex_23 rfl ti_650
                try replace f_23 : x_23.toInt = x_10.toInt + 650 := by omega
                clear l_23 u_23
                have g_26 := z_rng y_11
                obtain ⟨f_24, l_24, u_24⟩ := z_add ex_24 rfl rfl
                try replace f_24 : x_24.toInt = x_23.toInt + y_11.toInt := by omega
                clear l_24 u_24
                show x_24.toInt = (x_10.toInt + y_11.toInt + 650)
                omega
              have hl_hr_25 : 650 ≤ y_11.toInt + 650 ∧ y_11.toInt + 650 ≤ 709 := by
                have g_27 := z_rng y_11
                omega
              have hid_hr_25 : (x_10.toInt + y_11.toInt + 650) = x_10.toInt + (y_11.toInt + 650) := by simp only [Int.add_assoc, Int.add_sub_assoc]
              have hr_25 := z_cell (lo := 470) (hi := 769) hbs_18 hi_hr_25 hid_hr_25 hl_hr_25 (by decide)
              replace hid_hr_25 : zEq (x_10.toInt + y_11.toInt + 650) (x_10.toInt + (y_11.toInt + 650)) := hid_hr_25
              have hin_28 : vp_in x_24 (zn K (zr K a0 0)) := vp_in_iff.mpr (by rw [(hf_15.2.2 (by decide))]; exact hr_25.in)
              refine mld_40 C hs hP hf_15.1 hf_15.2.1 hin_28 dX12_revokes_73 ?_
              have ep_29 : x_24.toNatClampNeg = (x_10.toInt + y_11.toInt + 650).toNat := z_posE hi_hr_25
              rw [ep_29]
              refine lv_iload_n hx hb dX12_revokes_74 rfl (lv_at hl 5 rfl) ?_
              have J_105_41 : ∀ (y_40 : Int32) (ls : Array Slot), (y_40 = 0 ∨ y_40 = 1) → lv_has ls 7 [(0, .ref a0), (1, .int x1), (2, .int x2), (3, .int x3), (4, .int x_10), (5, .int y_12), (6, .int y_11)] → W p l e (rmd 2) s m args below meth c s.heap [] 0 0 Q (F0 m 105 ls [.int y_40, .int y_12]) := by
                intro y_40 ls hb_y_40 hl
                refine lv_iadd hx hb dX12_revokes_105 ?_
                refine lv_topi (fun x_43 ex_43 => ?_)
                refine lv_istore (lv' := [(5, .int x_43), (0, .ref a0), (1, .int x1), (2, .int x2), (3, .int x3), (4, .int x_10), (6, .int y_11)]) hx hb dX12_revokes_106 hl (by decide) rfl (fun ls hl => ?_)
                obtain ⟨x_44, ex_44⟩ : ∃ y : Int32, y = y_11 + 1 := ⟨_, rfl⟩
                refine lv_iinc (v := x_44) (lv' := [(6, .int x_44), (5, .int x_43), (0, .ref a0), (1, .int x1), (2, .int x2), (3, .int x3), (4, .int x_10)]) hx hb dX12_revokes_108 hl (k := 6) rfl (by rw [ex_44]; rfl) (by decide) rfl (fun ls hl => ?_)
                refine lv_goto (tgt := 43) hx hb dX12_revokes_111 (by decide) ?_
                have g_45 := z_rng y_11
                obtain ⟨f_44, l_44, u_44⟩ := z_add ex_44 rfl ti_1
                try replace f_44 : x_44.toInt = y_11.toInt + 1 := by omega
                clear l_44 u_44
                have g_46 := z_rng (A 40 (x_10.toInt + 43).toNat)
                exact ih_13 x_44 x_43 _ (by omega) (by omega) (lv_sub hl [0, 1, 6, 2, 3, 4, 5] rfl)
              refine bi_ne (tgt := 104) hx hb rfl rfl dX12_revokes_75 (by decide) (fun c_30 => ?_) (fun c_30 => ?_)
              · skip
                refine lv_iconst (v := 0) hx hb dX12_revokes_104 (by decide) ?_
                exact J_105_41 0 _ (Or.inl rfl) (lv_sub hl [3, 4, 5, 6, 2, 1, 0] rfl)
              · skip
                refine lv_iload_n hx hb dX12_revokes_78 rfl (lv_at hl 6 rfl) ?_
                refine bz_eq (tgt := 100) hx hb rfl dX12_revokes_79 (by decide) (fun c_47 => ?_) (fun c_47 => ?_)
                · skip
                  refine lv_iconst (v := 1) hx hb dX12_revokes_100 (by decide) ?_
                  refine lv_goto (tgt := 105) hx hb dX12_revokes_101 (by decide) ?_
                  exact J_105_41 1 _ (Or.inr rfl) (lv_sub hl [3, 4, 5, 6, 2, 1, 0] rfl)
                · skip
                  refine lv_aload_n hx hb dX12_revokes_82 rfl (lv_at hl 3 rfl) ?_
                  refine mg_0 C hs hP ha0 hk0 wf_X12_8 dX12_revokes_83 ?_
                  refine lv_iload hx hb dX12_revokes_86 (lv_at hl 2 rfl) ?_
                  refine lv_sipush (v := 830) hx hb dX12_revokes_88 (by decide) ?_
                  refine lv_iadd hx hb dX12_revokes_91 ?_
                  refine lv_topi (fun x_48 ex_48 => ?_)
                  refine lv_iload hx hb dX12_revokes_92 (lv_at hl 0 rfl) ?_
                  refine lv_iadd hx hb dX12_revokes_94 ?_
                  refine lv_topi (fun x_49 ex_49 => ?_)
                  have hi_hr_50 : zEq x_49.toInt (x_10.toInt + y_11.toInt + 830) := by
                    obtain ⟨f_48, l_48, u_48⟩ := z_add ex_48 rfl ti_830
                    try replace f_48 : x_48.toInt = x_10.toInt + 830 := by omega
                    clear l_48 u_48
                    have g_51 := z_rng y_11
                    obtain ⟨f_49, l_49, u_49⟩ := z_add ex_49 rfl rfl
                    try replace f_49 : x_49.toInt = x_48.toInt + y_11.toInt := by omega
                    clear l_49 u_49
                    show x_49.toInt = (x_10.toInt + y_11.toInt + 830)
                    omega
                  have hl_hr_50 : 830 ≤ y_11.toInt + 830 ∧ y_11.toInt + 830 ≤ 889 := by
                    have g_52 := z_rng y_11
                    omega
                  have hid_hr_50 : (x_10.toInt + y_11.toInt + 830) = x_10.toInt + (y_11.toInt + 830) := by simp only [Int.add_assoc, Int.add_sub_assoc]
                  have hr_50 := z_cell (lo := 830) (hi := 1289) hbs_18 hi_hr_50 hid_hr_50 hl_hr_50 (by decide)
                  replace hid_hr_50 : zEq (x_10.toInt + y_11.toInt + 830) (x_10.toInt + (y_11.toInt + 830)) := hid_hr_50
                  have hin_53 : vp_in x_49 (zn K (zr K a0 0)) := vp_in_iff.mpr (by rw [(hf_15.2.2 (by decide))]; exact hr_50.in)
                  refine mld_40 C hs hP hf_15.1 hf_15.2.1 hin_53 dX12_revokes_95 ?_
                  have ep_54 : x_49.toNatClampNeg = (x_10.toInt + y_11.toInt + 830).toNat := z_posE hi_hr_50
                  rw [ep_54]
                  refine lv_iconst (v := 1) hx hb dX12_revokes_96 (by decide) ?_
                  refine bi_ne (tgt := 104) hx hb rfl ti_1 dX12_revokes_97 (by decide) (fun c_55 => ?_) (fun c_55 => ?_)
                  · skip
                    refine lv_iconst (v := 0) hx hb dX12_revokes_104 (by decide) ?_
                    exact J_105_41 0 _ (Or.inl rfl) (lv_sub hl [3, 4, 5, 6, 2, 1, 0] rfl)
                  · skip
                    refine lv_iconst (v := 1) hx hb dX12_revokes_100 (by decide) ?_
                    refine lv_goto (tgt := 105) hx hb dX12_revokes_101 (by decide) ?_
                    exact J_105_41 1 _ (Or.inr rfl) (lv_sub hl [3, 4, 5, 6, 2, 1, 0] rfl)
        have g_56 := z_rng x_1
        have g_57 := z_rng x_4
        have g_58 := z_rng x_7
        exact L_43_13 _ 0 0 _ (Nat.lt_succ_self _) (by (try simp only [ti_0]); omega) (lv_sub hl [0, 1, 2, 3, 4, 5, 6] rfl)
      · skip
        replace pp_7 := pp_7.2 c_9
        refine lv_bipush (v := (-3)) hx hb dX12_revokes_27 (by decide) ?_
        exact zaS hQ hx hb hr hlk trivial dX12_revokes_29
    · skip
      replace pp_4 := pp_4.2 c_6
      refine lv_bipush (v := (-2)) hx hb dX12_revokes_15 (by decide) ?_
      exact zaS hQ hx hb hr hlk trivial dX12_revokes_17
set_option maxHeartbeats 4000000 in
set_option maxRecDepth 100000 in
theorem c_X12_forget (l : Launch) (D : va_G) (K : zK) (hM : mK K) (f : Nat → Int32) (A : Nat → Nat → Int32) (hT : mT f A) (a0 : Nat) (ha0 : a0 ∈ zl K) (hk0 : zk K a0 = 11) : Met l yX12_forget (zc yX12_forget cX12_forget 2 (some .int)) (rmd 0) (va_Pc [.ref a0] (zB D K (mV K f A))) (mQi D K (fun r f' A' => mT f' A' ∧ (∀ k, k ∉ ([] : List Nat) → A' k = A k) ∧ (∀ k, k ∉ ([11] : List Nat) → f' k = f k))) 0 0 (zA K) := by
  refine zin (by decide) (Nat.le_of_ble_eq_true rfl) ?_
  intro p e s m args below meth c ls Q hQ C hr hlk hP hs hl
  have C : CallFix p m c cX12_forget 2 s args zw RX12 := C
  obtain ⟨hx, hb, hml, hown, hts⟩ := id C
  have hO := hM.1
  have hS : va_S (zA K) s.heap s.heap [] := va_S.rf
  have FA : ∀ k, k ∉ ([] : List Nat) → A k = A k := fun _ _ => rfl
  have FF : ∀ k, k ∉ ([11] : List Nat) → f k = f k := fun _ _ => rfl
  have hl : lv_has ls 2 [(0, .ref a0)] := hl
  refine lv_aload_n hx hb dX12_forget_0 rfl (lv_at hl 0 rfl) ?_
  refine mg_11 C hs hP ha0 hk0 wf_X12_82 dX12_forget_1 ?_
  have tf_1 : 0 ≤ (f 11).toInt := hT.1 11
  refine lv_istore_n (lv' := [(1, .int (f 11)), (0, .ref a0)]) hx hb dX12_forget_4 rfl hl (by decide) rfl (fun ls hl => ?_)
  refine lv_aload_n hx hb dX12_forget_5 rfl (lv_at hl 1 rfl) ?_
  refine lv_iconst (v := 0) hx hb dX12_forget_6 (by decide) ?_
  refine mp_11 C hM hs hP hS ha0 hT hk0 wf_X12_82 (show 0 ≤ (0 : Int32).toInt from by rw [ti_0]; omega) dX12_forget_7 (fun f_2 H locs hE_2 hT hP hS => ?_)
  have FF := frF FF (frFu hE_2) (by decide)
  refine lv_iload_n hx hb dX12_forget_10 rfl (lv_at hl 0 rfl) ?_
  exact maI hQ hx hb hr hlk hP hS ⟨hT, FA, FF⟩ dX12_forget_11
