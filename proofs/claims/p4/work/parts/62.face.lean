set_option maxHeartbeats 4000000 in
set_option maxRecDepth 100000 in
theorem c_X12_kind (l : Launch) (D : va_G) (K : zK) (hM : mK K) (f : Nat → Int32) (A : Nat → Nat → Int32) (hT : mT f A) (N : Int) (a0 : Nat) (ha0 : a0 ∈ zl K) (hk0 : zk K a0 = 11) (x1 : Int32) (x2 : Int32) (x3 : Int32) (hp0 : okk N f A) (hp1 : 0 ≤ N ∧ N ≤ 600) : Met l yX12_kind (zc yX12_kind cX12_kind 6 (some .int)) (rmd 2) (va_Pc [.ref a0, .int x1, .int x2, .int x3] (zB D K (mV K f A))) (mQi D K (fun r f' A' => mT f' A' ∧ (∀ k, k ∉ ([40] : List Nat) → A' k = A k) ∧ (∀ k, k ∉ ([] : List Nat) → f' k = f k) ∧ okk (N + 1) f' A')) 0 0 (zA K) := by
  refine zin (by decide) (Nat.le_of_ble_eq_true rfl) ?_
  intro p e s m args below meth c ls Q hQ C hr hlk hP hs hl
  have C : CallFix p m c cX12_kind 6 s args zw RX12 := C
  obtain ⟨hx, hb, hml, hown, hts⟩ := id C
  have hO := hM.1
  have hS : va_S (zA K) s.heap s.heap [] := va_S.rf
  have FA : ∀ k, k ∉ ([40] : List Nat) → A k = A k := fun _ _ => rfl
  have FF : ∀ k, k ∉ ([] : List Nat) → f k = f k := fun _ _ => rfl
  have hl : lv_has ls 6 [(0, .ref a0), (1, .int x1), (2, .int x2), (3, .int x3)] := hl
  have aRc := hp0.1
  have hbud := hp0.2.2
  refine lv_aload_n hx hb dX12_kind_0 rfl (lv_at hl 0 rfl) ?_
  refine lv_iload_n hx hb dX12_kind_1 rfl (lv_at hl 1 rfl) ?_
  have hTo := hT
  refine zcS (zrV (As := [.int x1]) (b := a0) (rest := []) C hs hP hS (c_X12_isTable l D K hM f A hT a0 ha0 hk0 x1) m_X12_isTable wm_X12_107 (zrecv hs hP ha0 (zF_11 hk0) rfl) ⟨by decide, by decide⟩ hl.1 (Nat.le_of_ble_eq_true rfl) dX12_kind_2) (fun x_1 p_1 => ?_)
  have pp_1 : (x_1.toInt ≠ 0 → 0 ≤ x1.toInt ∧ x1.toInt ≤ 3) := p_1.2
  have g_2 := z_rng x1
  refine bz_eq (tgt := 17) hx hb rfl dX12_kind_5 (by decide) (fun c_3 => ?_) (fun c_3 => ?_)
  · skip
    clear pp_1
    refine lv_bipush (v := (-2)) hx hb dX12_kind_17 (by decide) ?_
    exact maI hQ hx hb hr hlk hP hS ⟨hT, FA, FF, ⟨(aRc.mono (by omega)), hp0.2.1, by omega, by omega⟩⟩ dX12_kind_19
  · skip
    replace pp_1 := pp_1 c_3
    refine lv_aload_n hx hb dX12_kind_8 rfl (lv_at hl 0 rfl) ?_
    refine lv_iload_n hx hb dX12_kind_9 rfl (lv_at hl 1 rfl) ?_
    refine lv_iload_n hx hb dX12_kind_10 rfl (lv_at hl 2 rfl) ?_
    have hTo := hT
    have g_4 := z_rng x2
    have hq_5 : 0 ≤ x1.toInt ∧ x1.toInt ≤ 3 := by (first | assumption | omega | (intros; omega))
    refine zcS (zrV (As := [.int x1, .int x2]) (b := a0) (rest := []) C hs hP hS (c_X12_isCard l D K hM f A hT a0 ha0 hk0 x1 x2 hq_5) m_X12_isCard wm_X12_113 (zrecv hs hP ha0 (zF_11 hk0) rfl) ⟨by decide, by decide⟩ hl.1 (Nat.le_of_ble_eq_true rfl) dX12_kind_11) (fun x_6 p_6 => ?_)
    have pp_6 : (x_6.toInt ≠ 0 → 0 ≤ x2.toInt ∧ x2.toInt ≤ 59) := p_6.2
    refine bz_ne (tgt := 20) hx hb rfl dX12_kind_14 (by decide) (fun c_7 => ?_) (fun c_7 => ?_)
    · skip
      replace pp_6 := pp_6 c_7
      refine lv_iload_n hx hb dX12_kind_20 rfl (lv_at hl 3 rfl) ?_
      refine lv_iconst (v := 0) hx hb dX12_kind_21 (by decide) ?_
      refine lv_iconst (v := 3) hx hb dX12_kind_22 (by decide) ?_
      have hTo := hT
      refine zcS (zrS (As := [.int x3, .int 0, .int 3]) (rest := []) C hs hP hS (c_X12_in l D K hM f A hT x3 0 3) m_X12_in wm_X12_91 ⟨by decide, by decide⟩ hl.1 (Nat.le_of_ble_eq_true rfl) dX12_kind_23) (fun x_8 p_8 => ?_)
      have pp_8 : (x_8.toInt ≠ 0 → (0 : Int32).toInt ≤ x3.toInt ∧ x3.toInt ≤ (3 : Int32).toInt) ∧ (x_8.toInt = 0 → x3.toInt < (0 : Int32).toInt ∨ (3 : Int32).toInt < x3.toInt) := p_8.2
      try simp only [ti_0, ti_3] at pp_8
      have g_9 := z_rng x3
      refine bz_ne (tgt := 32) hx hb rfl dX12_kind_26 (by decide) (fun c_10 => ?_) (fun c_10 => ?_)
      · skip
        replace pp_8 := pp_8.1 c_10
        refine lv_sipush (v := 1290) hx hb dX12_kind_32 (by decide) ?_
        refine lv_iload_n hx hb dX12_kind_35 rfl (lv_at hl 1 rfl) ?_
        refine lv_imul hx hb dX12_kind_36 ?_
        refine lv_topi (fun x_11 ex_11 => ?_)
        refine lv_istore (lv' := [(4, .int x_11), (0, .ref a0), (1, .int x1), (2, .int x2), (3, .int x3)]) hx hb dX12_kind_37 hl (by decide) rfl (fun ls hl => ?_)
        refine lv_aload_n hx hb dX12_kind_39 rfl (lv_at hl 1 rfl) ?_
        refine mg_0 C hs hP ha0 hk0 wf_X12_8 dX12_kind_40 ?_
        have hf_12 := hO.r (j := 0) ha0 hk0 (rfl : zX 11 0 = some (40, 47730))
        refine lv_iload hx hb dX12_kind_43 (lv_at hl 0 rfl) ?_
        refine lv_bipush (v := 110) hx hb dX12_kind_45 (by decide) ?_
        refine lv_iadd hx hb dX12_kind_47 ?_
        refine lv_topi (fun x_13 ex_13 => ?_)
        refine lv_iload_n hx hb dX12_kind_48 rfl (lv_at hl 3 rfl) ?_
        refine lv_iadd hx hb dX12_kind_49 ?_
        refine lv_topi (fun x_14 ex_14 => ?_)
        obtain ⟨f_11, l_11, u_11⟩ := z_mul ex_11 ti_1290 rfl
        try replace f_11 : x_11.toInt = 1290 * x1.toInt := by omega
        clear l_11 u_11
        have hbs_16 : zRow x_11.toInt := zRow.of (t := x1.toInt) (by omega) (by omega)
        have hbl_hbs_16 := hbs_16.lin
        have hi_hr_15 : zEq x_14.toInt (x_11.toInt + x2.toInt + 110) := by
          obtain ⟨f_13, l_13, u_13⟩ := z_add ex_13 rfl ti_110
          try replace f_13 : x_13.toInt = x_11.toInt + 110 := by omega
          clear l_13 u_13
          obtain ⟨f_14, l_14, u_14⟩ := z_add ex_14 rfl rfl
          try replace f_14 : x_14.toInt = x_13.toInt + x2.toInt := by omega
          clear l_14 u_14
          show x_14.toInt = (x_11.toInt + x2.toInt + 110)
          omega
        have hl_hr_15 : 110 ≤ x2.toInt + 110 ∧ x2.toInt + 110 ≤ 169 := by
          omega
        have hid_hr_15 : (x_11.toInt + x2.toInt + 110) = x_11.toInt + (x2.toInt + 110) := by simp only [Int.add_assoc, Int.add_sub_assoc]
        have hr_15 := z_cell (lo := 45) (hi := 169) hbs_16 hi_hr_15 hid_hr_15 hl_hr_15 (by decide)
        replace hid_hr_15 : zEq (x_11.toInt + x2.toInt + 110) (x_11.toInt + (x2.toInt + 110)) := hid_hr_15
        have hin_17 : vp_in x_14 (zn K (zr K a0 0)) := vp_in_iff.mpr (by rw [(hf_12.2.2 (by decide))]; exact hr_15.in)
        refine mld_40 C hs hP hf_12.1 hf_12.2.1 hin_17 dX12_kind_50 ?_
        have ep_18 : x_14.toNatClampNeg = (x_11.toInt + x2.toInt + 110).toNat := z_posE hi_hr_15
        rw [ep_18]
        clear ep_18
        refine bz_eq (tgt := 57) hx hb rfl dX12_kind_51 (by decide) (fun c_19 => ?_) (fun c_19 => ?_)
        · skip
          refine lv_aload_n hx hb dX12_kind_57 rfl (lv_at hl 1 rfl) ?_
          refine mg_0 C hs hP ha0 hk0 wf_X12_8 dX12_kind_58 ?_
          refine lv_iload hx hb dX12_kind_61 (lv_at hl 0 rfl) ?_
          refine lv_bipush (v := 50) hx hb dX12_kind_63 (by decide) ?_
          refine lv_iadd hx hb dX12_kind_65 ?_
          refine lv_topi (fun x_20 ex_20 => ?_)
          refine lv_iload_n hx hb dX12_kind_66 rfl (lv_at hl 3 rfl) ?_
          refine lv_iadd hx hb dX12_kind_67 ?_
          refine lv_topi (fun x_21 ex_21 => ?_)
          have hi_hr_22 : zEq x_21.toInt (x_11.toInt + x2.toInt + 50) := by
            obtain ⟨f_20, l_20, u_20⟩ := z_add ex_20 rfl ti_50
            try replace f_20 : x_20.toInt = x_11.toInt + 50 := by omega
            clear l_20 u_20
            obtain ⟨f_21, l_21, u_21⟩ := z_add ex_21 rfl rfl
            try replace f_21 : x_21.toInt = x_20.toInt + x2.toInt := by omega
            clear l_21 u_21
            show x_21.toInt = (x_11.toInt + x2.toInt + 50)
            omega
          have hl_hr_22 : 50 ≤ x2.toInt + 50 ∧ x2.toInt + 50 ≤ 109 := by
            omega
          have hid_hr_22 : (x_11.toInt + x2.toInt + 50) = x_11.toInt + (x2.toInt + 50) := by simp only [Int.add_assoc, Int.add_sub_assoc]
          have hr_22 := z_cell (lo := 45) (hi := 169) hbs_16 hi_hr_22 hid_hr_22 hl_hr_22 (by decide)
          replace hid_hr_22 : zEq (x_11.toInt + x2.toInt + 50) (x_11.toInt + (x2.toInt + 50)) := hid_hr_22
          have hin_23 : vp_in x_21 (zn K (zr K a0 0)) := vp_in_iff.mpr (by rw [(hf_12.2.2 (by decide))]; exact hr_22.in)
          refine mld_40 C hs hP hf_12.1 hf_12.2.1 hin_23 dX12_kind_68 ?_
          have ep_24 : x_21.toNatClampNeg = (x_11.toInt + x2.toInt + 50).toNat := z_posE hi_hr_22
          rw [ep_24]
          clear ep_24
          refine lv_istore (lv' := [(5, .int (A 40 (x_11.toInt + x2.toInt + 50).toNat)), (4, .int x_11), (0, .ref a0), (1, .int x1), (2, .int x2), (3, .int x3)]) hx hb dX12_kind_69 hl (by decide) rfl (fun ls hl => ?_)
          refine lv_aload_n hx hb dX12_kind_71 rfl (lv_at hl 2 rfl) ?_
          refine mg_0 C hs hP ha0 hk0 wf_X12_8 dX12_kind_72 ?_
          refine lv_iload hx hb dX12_kind_75 (lv_at hl 1 rfl) ?_
          refine lv_bipush (v := 50) hx hb dX12_kind_77 (by decide) ?_
          refine lv_iadd hx hb dX12_kind_79 ?_
          refine lv_topi (fun x_25 ex_25 => ?_)
          refine lv_iload_n hx hb dX12_kind_80 rfl (lv_at hl 4 rfl) ?_
          refine lv_iadd hx hb dX12_kind_81 ?_
          refine lv_topi (fun x_26 ex_26 => ?_)
          refine lv_iload_n hx hb dX12_kind_82 rfl (lv_at hl 5 rfl) ?_
          have hTo := hT
          have hi_hr_27 : zEq x_26.toInt (x_11.toInt + x2.toInt + 50) := by
            obtain ⟨f_25, l_25, u_25⟩ := z_add ex_25 rfl ti_50
            try replace f_25 : x_25.toInt = x_11.toInt + 50 := by omega
            clear l_25 u_25
            obtain ⟨f_26, l_26, u_26⟩ := z_add ex_26 rfl rfl
            try replace f_26 : x_26.toInt = x_25.toInt + x2.toInt := by omega
            clear l_26 u_26
            show x_26.toInt = (x_11.toInt + x2.toInt + 50)
            omega
          have hl_hr_27 : 50 ≤ x2.toInt + 50 ∧ x2.toInt + 50 ≤ 109 := by
            omega
          have hid_hr_27 : (x_11.toInt + x2.toInt + 50) = x_11.toInt + (x2.toInt + 50) := by simp only [Int.add_assoc, Int.add_sub_assoc]
          have hr_27 := z_cell (lo := 45) (hi := 169) hbs_16 hi_hr_27 hid_hr_27 hl_hr_27 (by decide)
          replace hid_hr_27 : zEq (x_11.toInt + x2.toInt + 50) (x_11.toInt + (x2.toInt + 50)) := hid_hr_27
          have hin_28 : vp_in x_26 (zn K (zr K a0 0)) := vp_in_iff.mpr (by rw [(hf_12.2.2 (by decide))]; exact hr_27.in)
          refine mst_40 C hM hs hP hS hf_12.1 hT hf_12.2.1 hin_28 (tp_45 hr_27) dX12_kind_83 (fun A_29 H locs hE_29 hT hP hS => ?_)
          have ep_30 : x_26.toNatClampNeg = (x_11.toInt + x2.toInt + 50).toNat := z_posE hi_hr_27
          rw [ep_30] at hE_29
          clear ep_30
          have FA := frA FA (frAu hE_29) (by decide)
          have hbo_31 : x_11.toInt = 1290 * x1.toInt := by omega
          have fcs_29 : fC (A 40) (A_29 40) (1290 * x1.toInt) [(50, 109)] := fC.s2 hE_29 (by omega) (by decide) (by omega)
          have aRc := aR.fw (t := x1.toInt) aRc hTo (by omega) fcs_29 (by decide) (wz_of fcs_29 (by omega) (by decide)) (by decide) (by decide) (by decide) (by decide) (by decide) (by decide) (by decide) (by decide) (by decide)
          refine lv_iload hx hb dX12_kind_84 (lv_at hl 0 rfl) ?_
          exact maI hQ hx hb hr hlk hP hS ⟨hT, FA, FF, ⟨(aRc.mono (by omega)), (by exact cOk.fw (t := x1.toInt) hp0.2.1 (by omega) fcs_29 (by decide) (by decide) (by decide)), by omega, by omega⟩⟩ dX12_kind_86
        · skip
          refine lv_bipush (v := (-4)) hx hb dX12_kind_54 (by decide) ?_
          exact maI hQ hx hb hr hlk hP hS ⟨hT, FA, FF, ⟨(aRc.mono (by omega)), hp0.2.1, by omega, by omega⟩⟩ dX12_kind_56
      · skip
        replace pp_8 := pp_8.2 c_10
        refine lv_bipush (v := (-3)) hx hb dX12_kind_29 (by decide) ?_
        exact maI hQ hx hb hr hlk hP hS ⟨hT, FA, FF, ⟨(aRc.mono (by omega)), hp0.2.1, by omega, by omega⟩⟩ dX12_kind_31
    · skip
      clear pp_6
      refine lv_bipush (v := (-2)) hx hb dX12_kind_17 (by decide) ?_
      exact maI hQ hx hb hr hlk hP hS ⟨hT, FA, FF, ⟨(aRc.mono (by omega)), hp0.2.1, by omega, by omega⟩⟩ dX12_kind_19
set_option maxHeartbeats 4000000 in
set_option maxRecDepth 100000 in
theorem c_X12_match (l : Launch) (D : va_G) (K : zK) (hM : mK K) (f : Nat → Int32) (A : Nat → Nat → Int32) (hT : mT f A) (N : Int) (a0 : Nat) (ha0 : a0 ∈ zl K) (hk0 : zk K a0 = 11) (x1 : Int32) (x2 : Int32) (hp0 : okk N f A) (hp1 : 0 ≤ N ∧ N ≤ 600) : Met l yX12_match (zc yX12_match cX12_match 6 (some .int)) (rmd 2) (va_Pc [.ref a0, .int x1, .int x2] (zB D K (mV K f A))) (mQi D K (fun r f' A' => mT f' A' ∧ (∀ k, k ∉ ([40] : List Nat) → A' k = A k) ∧ (∀ k, k ∉ ([] : List Nat) → f' k = f k) ∧ okk (N + 1) f' A')) 0 0 (zA K) := by
  refine zin (by decide) (Nat.le_of_ble_eq_true rfl) ?_
  intro p e s m args below meth c ls Q hQ C hr hlk hP hs hl
  have C : CallFix p m c cX12_match 6 s args zw RX12 := C
  obtain ⟨hx, hb, hml, hown, hts⟩ := id C
  have hO := hM.1
  have hS : va_S (zA K) s.heap s.heap [] := va_S.rf
  have FA : ∀ k, k ∉ ([40] : List Nat) → A k = A k := fun _ _ => rfl
  have FF : ∀ k, k ∉ ([] : List Nat) → f k = f k := fun _ _ => rfl
  have hl : lv_has ls 6 [(0, .ref a0), (1, .int x1), (2, .int x2)] := hl
  have aRc := hp0.1
  have hbud := hp0.2.2
  refine lv_aload_n hx hb dX12_match_0 rfl (lv_at hl 0 rfl) ?_
  refine lv_iload_n hx hb dX12_match_1 rfl (lv_at hl 1 rfl) ?_
  have hTo := hT
  refine zcS (zrV (As := [.int x1]) (b := a0) (rest := []) C hs hP hS (c_X12_isTable l D K hM f A hT a0 ha0 hk0 x1) m_X12_isTable wm_X12_107 (zrecv hs hP ha0 (zF_11 hk0) rfl) ⟨by decide, by decide⟩ hl.1 (Nat.le_of_ble_eq_true rfl) dX12_match_2) (fun x_1 p_1 => ?_)
  have pp_1 : (x_1.toInt ≠ 0 → 0 ≤ x1.toInt ∧ x1.toInt ≤ 3) := p_1.2
  have g_2 := z_rng x1
  refine bz_ne (tgt := 11) hx hb rfl dX12_match_5 (by decide) (fun c_3 => ?_) (fun c_3 => ?_)
  · skip
    replace pp_1 := pp_1 c_3
    refine lv_iload_n hx hb dX12_match_11 rfl (lv_at hl 2 rfl) ?_
    refine lv_iconst (v := 1) hx hb dX12_match_12 (by decide) ?_
    refine lv_sipush (v := 200) hx hb dX12_match_13 (by decide) ?_
    have hTo := hT
    refine zcS (zrS (As := [.int x2, .int 1, .int 200]) (rest := []) C hs hP hS (c_X12_in l D K hM f A hT x2 1 200) m_X12_in wm_X12_91 ⟨by decide, by decide⟩ hl.1 (Nat.le_of_ble_eq_true rfl) dX12_match_16) (fun x_4 p_4 => ?_)
    have pp_4 : (x_4.toInt ≠ 0 → (1 : Int32).toInt ≤ x2.toInt ∧ x2.toInt ≤ (200 : Int32).toInt) ∧ (x_4.toInt = 0 → x2.toInt < (1 : Int32).toInt ∨ (200 : Int32).toInt < x2.toInt) := p_4.2
    try simp only [ti_1, ti_200] at pp_4
    have g_5 := z_rng x2
    refine bz_ne (tgt := 25) hx hb rfl dX12_match_19 (by decide) (fun c_6 => ?_) (fun c_6 => ?_)
    · skip
      replace pp_4 := pp_4.1 c_6
      refine lv_sipush (v := 1290) hx hb dX12_match_25 (by decide) ?_
      refine lv_iload_n hx hb dX12_match_28 rfl (lv_at hl 1 rfl) ?_
      refine lv_imul hx hb dX12_match_29 ?_
      refine lv_topi (fun x_7 ex_7 => ?_)
      refine lv_istore_n (lv' := [(3, .int x_7), (0, .ref a0), (1, .int x1), (2, .int x2)]) hx hb dX12_match_30 rfl hl (by decide) rfl (fun ls hl => ?_)
      refine lv_aload_n hx hb dX12_match_31 rfl (lv_at hl 1 rfl) ?_
      refine mg_0 C hs hP ha0 hk0 wf_X12_8 dX12_match_32 ?_
      have hf_8 := hO.r (j := 0) ha0 hk0 (rfl : zX 11 0 = some (40, 47730))
      refine lv_iload_n hx hb dX12_match_35 rfl (lv_at hl 0 rfl) ?_
      refine lv_iconst (v := 5) hx hb dX12_match_36 (by decide) ?_
      refine lv_iadd hx hb dX12_match_37 ?_
      refine lv_topi (fun x_9 ex_9 => ?_)
      obtain ⟨f_7, l_7, u_7⟩ := z_mul ex_7 ti_1290 rfl
      try replace f_7 : x_7.toInt = 1290 * x1.toInt := by omega
      clear l_7 u_7
      have hbs_11 : zRow x_7.toInt := zRow.of (t := x1.toInt) (by omega) (by omega)
      have hbl_hbs_11 := hbs_11.lin
      have hi_hr_10 : zEq x_9.toInt (x_7.toInt + 5) := by
        obtain ⟨f_9, l_9, u_9⟩ := z_add ex_9 rfl ti_5
        try replace f_9 : x_9.toInt = x_7.toInt + 5 := by omega
        clear l_9 u_9
        show x_9.toInt = (x_7.toInt + 5)
        omega
      have hl_hr_10 : (5 : Int) ≤ 5 ∧ 5 ≤ (5 : Int) := by decide
      have hid_hr_10 : (x_7.toInt + 5) = x_7.toInt + (5) := by simp only [Int.add_assoc, Int.add_sub_assoc]
      have hr_10 := z_cell (lo := 2) (hi := 8) hbs_11 hi_hr_10 hid_hr_10 hl_hr_10 (by decide)
      replace hid_hr_10 : zEq (x_7.toInt + 5) (x_7.toInt + (5)) := hid_hr_10
      have hin_12 : vp_in x_9 (zn K (zr K a0 0)) := vp_in_iff.mpr (by rw [(hf_8.2.2 (by decide))]; exact hr_10.in)
      refine mld_40 C hs hP hf_8.1 hf_8.2.1 hin_12 dX12_match_38 ?_
      have ep_13 : x_9.toNatClampNeg = (x_7.toInt + 5).toNat := z_posE hi_hr_10
      rw [ep_13]
      clear ep_13
      refine lv_iconst (v := 1) hx hb dX12_match_39 (by decide) ?_
      refine bi_ne (tgt := 46) hx hb rfl ti_1 dX12_match_40 (by decide) (fun c_14 => ?_) (fun c_14 => ?_)
      · skip
        refine lv_aload_n hx hb dX12_match_46 rfl (lv_at hl 1 rfl) ?_
        refine mg_0 C hs hP ha0 hk0 wf_X12_8 dX12_match_47 ?_
        refine lv_iload_n hx hb dX12_match_50 rfl (lv_at hl 0 rfl) ?_
        refine lv_bipush (v := 8) hx hb dX12_match_51 (by decide) ?_
        refine lv_iadd hx hb dX12_match_53 ?_
        refine lv_topi (fun x_15 ex_15 => ?_)
        have hi_hr_16 : zEq x_15.toInt (x_7.toInt + 8) := by
          obtain ⟨f_15, l_15, u_15⟩ := z_add ex_15 rfl ti_8
          try replace f_15 : x_15.toInt = x_7.toInt + 8 := by omega
          clear l_15 u_15
          show x_15.toInt = (x_7.toInt + 8)
          omega
        have hl_hr_16 : (8 : Int) ≤ 8 ∧ 8 ≤ (8 : Int) := by decide
        have hid_hr_16 : (x_7.toInt + 8) = x_7.toInt + (8) := by simp only [Int.add_assoc, Int.add_sub_assoc]
        have hr_16 := z_cell (lo := 2) (hi := 8) hbs_11 hi_hr_16 hid_hr_16 hl_hr_16 (by decide)
        replace hid_hr_16 : zEq (x_7.toInt + 8) (x_7.toInt + (8)) := hid_hr_16
        have hin_17 : vp_in x_15 (zn K (zr K a0 0)) := vp_in_iff.mpr (by rw [(hf_8.2.2 (by decide))]; exact hr_16.in)
        refine mld_40 C hs hP hf_8.1 hf_8.2.1 hin_17 dX12_match_54 ?_
        have ep_18 : x_15.toNatClampNeg = (x_7.toInt + 8).toNat := z_posE hi_hr_16
        rw [ep_18]
        clear ep_18
        refine lv_istore (lv' := [(4, .int (A 40 (x_7.toInt + 8).toNat)), (3, .int x_7), (0, .ref a0), (1, .int x1), (2, .int x2)]) hx hb dX12_match_55 hl (by decide) rfl (fun ls hl => ?_)
        refine lv_aload_n hx hb dX12_match_57 rfl (lv_at hl 2 rfl) ?_
        refine mg_0 C hs hP ha0 hk0 wf_X12_8 dX12_match_58 ?_
        refine lv_iload_n hx hb dX12_match_61 rfl (lv_at hl 1 rfl) ?_
        refine lv_bipush (v := 7) hx hb dX12_match_62 (by decide) ?_
        refine lv_iadd hx hb dX12_match_64 ?_
        refine lv_topi (fun x_19 ex_19 => ?_)
        refine lv_iload_n hx hb dX12_match_65 rfl (lv_at hl 4 rfl) ?_
        have hTo := hT
        have hi_hr_20 : zEq x_19.toInt (x_7.toInt + 7) := by
          obtain ⟨f_19, l_19, u_19⟩ := z_add ex_19 rfl ti_7
          try replace f_19 : x_19.toInt = x_7.toInt + 7 := by omega
          clear l_19 u_19
          show x_19.toInt = (x_7.toInt + 7)
          omega
        have hl_hr_20 : (7 : Int) ≤ 7 ∧ 7 ≤ (7 : Int) := by decide
        have hid_hr_20 : (x_7.toInt + 7) = x_7.toInt + (7) := by simp only [Int.add_assoc, Int.add_sub_assoc]
        have hr_20 := z_cell (lo := 2) (hi := 8) hbs_11 hi_hr_20 hid_hr_20 hl_hr_20 (by decide)
        replace hid_hr_20 : zEq (x_7.toInt + 7) (x_7.toInt + (7)) := hid_hr_20
        have hin_21 : vp_in x_19 (zn K (zr K a0 0)) := vp_in_iff.mpr (by rw [(hf_8.2.2 (by decide))]; exact hr_20.in)
        refine mst_40 C hM hs hP hS hf_8.1 hT hf_8.2.1 hin_21 (tp_2 hr_20) dX12_match_66 (fun A_22 H locs hE_22 hT hP hS => ?_)
        have ep_23 : x_19.toNatClampNeg = (x_7.toInt + 7).toNat := z_posE hi_hr_20
        rw [ep_23] at hE_22
        clear ep_23
        have FA := frA FA (frAu hE_22) (by decide)
        have hbo_24 : x_7.toInt = 1290 * x1.toInt := by omega
        have fcs_22 : fC (A 40) (A_22 40) (1290 * x1.toInt) [(7, 7)] := fC.s2 hE_22 (by omega) (by decide) (by omega)
        have aRc := aR.fw (t := x1.toInt) aRc hTo (by omega) fcs_22 (by decide) (wz_of fcs_22 (by omega) (by decide)) (by decide) (by decide) (by decide) (by decide) (by decide) (by decide) (by decide) (by decide) (by decide)
        refine lv_aload_n hx hb dX12_match_67 rfl (lv_at hl 2 rfl) ?_
        refine mg_0 C hs hP ha0 hk0 wf_X12_8 dX12_match_68 ?_
        refine lv_iload_n hx hb dX12_match_71 rfl (lv_at hl 1 rfl) ?_
        refine lv_bipush (v := 8) hx hb dX12_match_72 (by decide) ?_
        refine lv_iadd hx hb dX12_match_74 ?_
        refine lv_topi (fun x_25 ex_25 => ?_)
        refine lv_iconst (v := 0) hx hb dX12_match_75 (by decide) ?_
        have hTo := hT
        have hi_hr_26 : zEq x_25.toInt (x_7.toInt + 8) := by
          obtain ⟨f_25, l_25, u_25⟩ := z_add ex_25 rfl ti_8
          try replace f_25 : x_25.toInt = x_7.toInt + 8 := by omega
          clear l_25 u_25
          show x_25.toInt = (x_7.toInt + 8)
          omega
        have hl_hr_26 : (8 : Int) ≤ 8 ∧ 8 ≤ (8 : Int) := by decide
        have hid_hr_26 : (x_7.toInt + 8) = x_7.toInt + (8) := by simp only [Int.add_assoc, Int.add_sub_assoc]
        have hr_26 := z_cell (lo := 2) (hi := 8) hbs_11 hi_hr_26 hid_hr_26 hl_hr_26 (by decide)
        replace hid_hr_26 : zEq (x_7.toInt + 8) (x_7.toInt + (8)) := hid_hr_26
        have hin_27 : vp_in x_25 (zn K (zr K a0 0)) := vp_in_iff.mpr (by rw [(hf_8.2.2 (by decide))]; exact hr_26.in)
        refine mst_40 C hM hs hP hS hf_8.1 hT hf_8.2.1 hin_27 (tp_2 hr_26) dX12_match_76 (fun A_28 H locs hE_28 hT hP hS => ?_)
        have ep_29 : x_25.toNatClampNeg = (x_7.toInt + 8).toNat := z_posE hi_hr_26
        rw [ep_29] at hE_28
        clear ep_29
        have FA := frA FA (frAu hE_28) (by decide)
        have fcs_28 : fC (A_22 40) (A_28 40) (1290 * x1.toInt) [(8, 8)] := fC.s2 hE_28 (by omega) (by decide) (by omega)
        have aRc := aR.fw (t := x1.toInt) aRc hTo (by omega) fcs_28 (by decide) (wz_of fcs_28 (by omega) (by decide)) (by decide) (by decide) (by decide) (by decide) (by decide) (by decide) (by decide) (by decide) (by decide)
        refine lv_iconst (v := 0) hx hb dX12_match_77 (by decide) ?_
        refine lv_istore (lv' := [(5, .int 0), (4, .int (A 40 (x_7.toInt + 8).toNat)), (3, .int x_7), (0, .ref a0), (1, .int x1), (2, .int x2)]) hx hb dX12_match_78 hl (by decide) rfl (fun ls hl => ?_)
        have L_80_31 : ∀ (n_31 : Nat) (A_32 : Nat → Nat → Int32) (H : Heap) (locs : List Loc) (y_30 : Int32) (ls : Array Slot), (2147483648 - y_30.toInt).toNat < n_31 → 0 ≤ y_30.toInt → fC (A 40) (A_32 40) (1290 * x1.toInt) [(7, 8), (39, 42)] → aR (A_32 40) N → (∀ k, k ∉ ([40] : List Nat) → A_32 k = A k) → mT f A_32 → va_P D vwCl (zW K (mV K f A_32)) H → va_S (zA K) s.heap H locs → lv_has ls 6 [(5, .int y_30), (4, .int (A 40 (x_7.toInt + 8).toNat)), (3, .int x_7), (0, .ref a0), (1, .int x1), (2, .int x2)] → W p l e (rmd 2) s m args below meth c H locs 0 0 Q (F0 m 80 ls []) := by
          intro n_31
          induction n_31 with
          | zero => intro A_32 H locs y_30 ls hm_31; exact absurd hm_31 (Nat.not_lt_zero _)
          | succ n_31 ih_31 =>
            intro A_32 H locs y_30 ls hm_31 iv_32_0 iv_32_1 iv_32_2 FA_32 hT hP hS hl
            have FA := FA_32
            have aRc := iv_32_2
            have fcm := iv_32_1
            refine lv_iload hx hb dX12_match_80 (lv_at hl 0 rfl) ?_
            refine lv_iconst (v := 4) hx hb dX12_match_82 (by decide) ?_
            refine bi_ge (tgt := 105) hx hb rfl ti_4 dX12_match_83 (by decide) (fun c_34 => ?_) (fun c_34 => ?_)
            · skip
              refine lv_iload hx hb dX12_match_105 (lv_at hl 1 rfl) ?_
              exact maI hQ hx hb hr hlk hP hS ⟨hT, FA, FF, ⟨(aRc.mono (by omega)), (cOk.fw (t := x1.toInt) hp0.2.1 (by omega) fcm (by decide) (by decide) (by decide)), by omega, by omega⟩⟩ dX12_match_107
            · skip
              refine lv_aload_n hx hb dX12_match_86 rfl (lv_at hl 3 rfl) ?_
              refine mg_0 C hs hP ha0 hk0 wf_X12_8 dX12_match_87 ?_
              refine lv_iload_n hx hb dX12_match_90 rfl (lv_at hl 2 rfl) ?_
              refine lv_bipush (v := 39) hx hb dX12_match_91 (by decide) ?_
              refine lv_iadd hx hb dX12_match_93 ?_
              refine lv_topi (fun x_35 ex_35 => ?_)
              refine lv_iload hx hb dX12_match_94 (lv_at hl 0 rfl) ?_
              refine lv_iadd hx hb dX12_match_96 ?_
              refine lv_topi (fun x_36 ex_36 => ?_)
              refine lv_iconst (v := 0) hx hb dX12_match_97 (by decide) ?_
              have hTo := hT
              have hi_hr_37 : zEq x_36.toInt (x_7.toInt + y_30.toInt + 39) := by
                obtain ⟨f_35, l_35, u_35⟩ := z_add ex_35 rfl ti_39
                try replace f_35 : x_35.toInt = x_7.toInt + 39 := by omega
                clear l_35 u_35
                have g_38 := z_rng y_30
                obtain ⟨f_36, l_36, u_36⟩ := z_add ex_36 rfl rfl
                try replace f_36 : x_36.toInt = x_35.toInt + y_30.toInt := by omega
                clear l_36 u_36
                show x_36.toInt = (x_7.toInt + y_30.toInt + 39)
                omega
              have hl_hr_37 : 39 ≤ y_30.toInt + 39 ∧ y_30.toInt + 39 ≤ 42 := by
                have g_39 := z_rng y_30
                omega
              have hid_hr_37 : (x_7.toInt + y_30.toInt + 39) = x_7.toInt + (y_30.toInt + 39) := by simp only [Int.add_assoc, Int.add_sub_assoc]
              have hr_37 := z_cell (lo := 39) (hi := 42) hbs_11 hi_hr_37 hid_hr_37 hl_hr_37 (by decide)
              replace hid_hr_37 : zEq (x_7.toInt + y_30.toInt + 39) (x_7.toInt + (y_30.toInt + 39)) := hid_hr_37
              have hin_40 : vp_in x_36 (zn K (zr K a0 0)) := vp_in_iff.mpr (by rw [(hf_8.2.2 (by decide))]; exact hr_37.in)
              refine mst_40 C hM hs hP hS hf_8.1 hT hf_8.2.1 hin_40 (tp_39 hr_37) dX12_match_98 (fun A_41 H locs hE_41 hT hP hS => ?_)
              have ep_42 : x_36.toNatClampNeg = (x_7.toInt + y_30.toInt + 39).toNat := z_posE hi_hr_37
              rw [ep_42] at hE_41
              clear ep_42
              have FA := frA FA (frAu hE_41) (by decide)
              have fcs_41 : fC (A_32 40) (A_41 40) (1290 * x1.toInt) [(39, 42)] := fC.s2 hE_41 (by omega) (by decide) (by omega)
              have aRc := aR.fw (t := x1.toInt) aRc hTo (by omega) fcs_41 (by decide) (wz_of fcs_41 (by omega) (by decide)) (by decide) (by decide) (by decide) (by decide) (by decide) (by decide) (by decide) (by decide) (by decide)
              obtain ⟨x_43, ex_43⟩ : ∃ y : Int32, y = y_30 + 1 := ⟨_, rfl⟩
              refine lv_iinc (v := x_43) (lv' := [(5, .int x_43), (4, .int (A 40 (x_7.toInt + 8).toNat)), (3, .int x_7), (0, .ref a0), (1, .int x1), (2, .int x2)]) hx hb dX12_match_99 hl (k := 0) rfl (by rw [ex_43]; rfl) (by decide) rfl (fun ls hl => ?_)
              refine lv_goto (tgt := 80) hx hb dX12_match_102 (by decide) ?_
              have g_44 := z_rng y_30
              obtain ⟨f_43, l_43, u_43⟩ := z_add ex_43 rfl ti_1
              try replace f_43 : x_43.toInt = y_30.toInt + 1 := by omega
              clear l_43 u_43
              have fm_45 : fC (A 40) (A_41 40) (1290 * x1.toInt) [(7, 8), (39, 42)] := fC.tr fcm fcs_41 (by decide)
              exact ih_31 A_41 _ _ x_43 _ (by omega) (by omega) fm_45 aRc FA hT hP hS (lv_sub hl [0, 1, 2, 3, 4, 5] rfl)
        have g_46 := z_rng (A 40 (x_7.toInt + 5).toNat)
        have g_47 := z_rng x_1
        have g_48 := z_rng x_4
        have fm_49 : fC (A 40) (A_22 40) (1290 * x1.toInt) [(7, 8), (39, 42)] := fC.tr fC.rf fcs_22 (by decide)
        have fm_50 : fC (A 40) (A_28 40) (1290 * x1.toInt) [(7, 8), (39, 42)] := fC.tr fm_49 fcs_28 (by decide)
        exact L_80_31 _ A_28 _ _ 0 _ (Nat.lt_succ_self _) (by (try simp only [ti_0]); omega) fm_50 aRc FA hT hP hS (lv_sub hl [0, 1, 2, 3, 4, 5] rfl)
      · skip
        refine lv_bipush (v := (-4)) hx hb dX12_match_43 (by decide) ?_
        exact maI hQ hx hb hr hlk hP hS ⟨hT, FA, FF, ⟨(aRc.mono (by omega)), hp0.2.1, by omega, by omega⟩⟩ dX12_match_45
    · skip
      replace pp_4 := pp_4.2 c_6
      refine lv_bipush (v := (-3)) hx hb dX12_match_22 (by decide) ?_
      exact maI hQ hx hb hr hlk hP hS ⟨hT, FA, FF, ⟨(aRc.mono (by omega)), hp0.2.1, by omega, by omega⟩⟩ dX12_match_24
  · skip
    clear pp_1
    refine lv_bipush (v := (-2)) hx hb dX12_match_8 (by decide) ?_
    exact maI hQ hx hb hr hlk hP hS ⟨hT, FA, FF, ⟨(aRc.mono (by omega)), hp0.2.1, by omega, by omega⟩⟩ dX12_match_10
set_option maxHeartbeats 4000000 in
set_option maxRecDepth 100000 in
theorem c_X12_deal (l : Launch) (D : va_G) (K : zK) (hM : mK K) (f : Nat → Int32) (A : Nat → Nat → Int32) (hT : mT f A) (N : Int) (a0 : Nat) (ha0 : a0 ∈ zl K) (hk0 : zk K a0 = 11) (x1 : Int32) (x2 : Int32) (x3 : Int32) (hp0 : okk N f A) (hp1 : 0 ≤ N ∧ N ≤ 600) : Met l yX12_deal (zc yX12_deal cX12_deal 5 (some .int)) (rmd 3) (va_Pc [.ref a0, .int x1, .int x2, .int x3] (zB D K (mV K f A))) (mQi D K (fun r f' A' => mT f' A' ∧ (∀ k, k ∉ ([40, 42, 50] : List Nat) → A' k = A k) ∧ (∀ k, k ∉ ([6, 11, 23] : List Nat) → f' k = f k) ∧ okk (N + 1) f' A')) 0 0 (zA K) := by
  refine zin (by decide) (Nat.le_of_ble_eq_true rfl) ?_
  intro p e s m args below meth c ls Q hQ C hr hlk hP hs hl
  have C : CallFix p m c cX12_deal 5 s args zw RX12 := C
  obtain ⟨hx, hb, hml, hown, hts⟩ := id C
  have hO := hM.1
  have hS : va_S (zA K) s.heap s.heap [] := va_S.rf
  have FA : ∀ k, k ∉ ([40, 42, 50] : List Nat) → A k = A k := fun _ _ => rfl
  have FF : ∀ k, k ∉ ([6, 11, 23] : List Nat) → f k = f k := fun _ _ => rfl
  have hl : lv_has ls 5 [(0, .ref a0), (1, .int x1), (2, .int x2), (3, .int x3)] := hl
  have aRc := hp0.1
  have hbud := hp0.2.2
  refine lv_aload_n hx hb dX12_deal_0 rfl (lv_at hl 0 rfl) ?_
  refine lv_iload_n hx hb dX12_deal_1 rfl (lv_at hl 1 rfl) ?_
  have hTo := hT
  refine zcS (zrV (As := [.int x1]) (b := a0) (rest := []) C hs hP hS (c_X12_isTable l D K hM f A hT a0 ha0 hk0 x1) m_X12_isTable wm_X12_107 (zrecv hs hP ha0 (zF_11 hk0) rfl) ⟨by decide, by decide⟩ hl.1 (Nat.le_of_ble_eq_true rfl) dX12_deal_2) (fun x_1 p_1 => ?_)
  have pp_1 : (x_1.toInt ≠ 0 → 0 ≤ x1.toInt ∧ x1.toInt ≤ 3) := p_1.2
  have g_2 := z_rng x1
  refine bz_ne (tgt := 11) hx hb rfl dX12_deal_5 (by decide) (fun c_3 => ?_) (fun c_3 => ?_)
  · skip
    replace pp_1 := pp_1 c_3
    refine lv_sipush (v := 1290) hx hb dX12_deal_11 (by decide) ?_
    refine lv_iload_n hx hb dX12_deal_14 rfl (lv_at hl 1 rfl) ?_
    refine lv_imul hx hb dX12_deal_15 ?_
    refine lv_topi (fun x_4 ex_4 => ?_)
    refine lv_istore (lv' := [(4, .int x_4), (0, .ref a0), (1, .int x1), (2, .int x2), (3, .int x3)]) hx hb dX12_deal_16 hl (by decide) rfl (fun ls hl => ?_)
    refine lv_iload_n hx hb dX12_deal_18 rfl (lv_at hl 4 rfl) ?_
    refine lv_iconst (v := (-1)) hx hb dX12_deal_19 (by decide) ?_
    refine lv_aload_n hx hb dX12_deal_20 rfl (lv_at hl 1 rfl) ?_
    refine lv_iload hx hb dX12_deal_21 (lv_at hl 0 rfl) ?_
    have hTo := hT
    obtain ⟨f_4, l_4, u_4⟩ := z_mul ex_4 ti_1290 rfl
    try replace f_4 : x_4.toInt = 1290 * x1.toInt := by omega
    clear l_4 u_4
    have hbs_5 : zRow x_4.toInt := zRow.of (t := x1.toInt) (by omega) (by omega)
    have hbl_hbs_5 := hbs_5.lin
    refine zcS (zrV (As := [.int x_4]) (b := a0) (rest := [.int (-1), .int x3]) C hs hP hS (c_X12_sizeOf l D K hM f A hT a0 ha0 hk0 x_4 hbs_5) m_X12_sizeOf wm_X12_155 (zrecv hs hP ha0 (zF_11 hk0) rfl) ⟨by decide, by decide⟩ hl.1 (Nat.le_of_ble_eq_true rfl) dX12_deal_23) (fun x_6 p_6 => ?_)
    have pp_6 : 0 ≤ x_6.toInt ∧ x_6.toInt ≤ 15 := p_6
    have hTo := hT
    refine zcS (zrS (As := [.int x3, .int (-1), .int x_6]) (rest := []) C hs hP hS (c_X12_in l D K hM f A hT x3 (-1) x_6) m_X12_in wm_X12_91 ⟨by decide, by decide⟩ hl.1 (Nat.le_of_ble_eq_true rfl) dX12_deal_26) (fun x_7 p_7 => ?_)
    have pp_7 : (x_7.toInt ≠ 0 → ((-1) : Int32).toInt ≤ x3.toInt ∧ x3.toInt ≤ x_6.toInt) ∧ (x_7.toInt = 0 → x3.toInt < ((-1) : Int32).toInt ∨ x_6.toInt < x3.toInt) := p_7.2
    try simp only [ti_m1] at pp_7
    have g_8 := z_rng x3
    have g_9 := z_rng x_6
    refine bz_ne (tgt := 35) hx hb rfl dX12_deal_29 (by decide) (fun c_10 => ?_) (fun c_10 => ?_)
    · skip
      replace pp_7 := pp_7.1 c_10
      refine lv_aload_n hx hb dX12_deal_35 rfl (lv_at hl 1 rfl) ?_
      refine mg_0 C hs hP ha0 hk0 wf_X12_8 dX12_deal_36 ?_
      have hf_11 := hO.r (j := 0) ha0 hk0 (rfl : zX 11 0 = some (40, 47730))
      refine lv_iload hx hb dX12_deal_39 (lv_at hl 0 rfl) ?_
      refine lv_iconst (v := 5) hx hb dX12_deal_41 (by decide) ?_
      refine lv_iadd hx hb dX12_deal_42 ?_
      refine lv_topi (fun x_12 ex_12 => ?_)
      have hi_hr_13 : zEq x_12.toInt (x_4.toInt + 5) := by
        obtain ⟨f_12, l_12, u_12⟩ := z_add ex_12 rfl ti_5
        try replace f_12 : x_12.toInt = x_4.toInt + 5 := by omega
        clear l_12 u_12
        show x_12.toInt = (x_4.toInt + 5)
        omega
      have hl_hr_13 : (5 : Int) ≤ 5 ∧ 5 ≤ (5 : Int) := by decide
      have hid_hr_13 : (x_4.toInt + 5) = x_4.toInt + (5) := by simp only [Int.add_assoc, Int.add_sub_assoc]
      have hr_13 := z_cell (lo := 2) (hi := 8) hbs_5 hi_hr_13 hid_hr_13 hl_hr_13 (by decide)
      replace hid_hr_13 : zEq (x_4.toInt + 5) (x_4.toInt + (5)) := hid_hr_13
      have hin_14 : vp_in x_12 (zn K (zr K a0 0)) := vp_in_iff.mpr (by rw [(hf_11.2.2 (by decide))]; exact hr_13.in)
      refine mld_40 C hs hP hf_11.1 hf_11.2.1 hin_14 dX12_deal_43 ?_
      have ep_15 : x_12.toNatClampNeg = (x_4.toInt + 5).toNat := z_posE hi_hr_13
      rw [ep_15]
      clear ep_15
      refine lv_iconst (v := 1) hx hb dX12_deal_44 (by decide) ?_
      refine bi_ne (tgt := 62) hx hb rfl ti_1 dX12_deal_45 (by decide) (fun c_16 => ?_) (fun c_16 => ?_)
      · skip
        refine lv_aload_n hx hb dX12_deal_62 rfl (lv_at hl 1 rfl) ?_
        refine mg_0 C hs hP ha0 hk0 wf_X12_8 dX12_deal_63 ?_
        refine lv_iload hx hb dX12_deal_66 (lv_at hl 0 rfl) ?_
        refine lv_bipush (v := 8) hx hb dX12_deal_68 (by decide) ?_
        refine lv_iadd hx hb dX12_deal_70 ?_
        refine lv_topi (fun x_17 ex_17 => ?_)
        have hi_hr_18 : zEq x_17.toInt (x_4.toInt + 8) := by
          obtain ⟨f_17, l_17, u_17⟩ := z_add ex_17 rfl ti_8
          try replace f_17 : x_17.toInt = x_4.toInt + 8 := by omega
          clear l_17 u_17
          show x_17.toInt = (x_4.toInt + 8)
          omega
        have hl_hr_18 : (8 : Int) ≤ 8 ∧ 8 ≤ (8 : Int) := by decide
        have hid_hr_18 : (x_4.toInt + 8) = x_4.toInt + (8) := by simp only [Int.add_assoc, Int.add_sub_assoc]
        have hr_18 := z_cell (lo := 2) (hi := 8) hbs_5 hi_hr_18 hid_hr_18 hl_hr_18 (by decide)
        replace hid_hr_18 : zEq (x_4.toInt + 8) (x_4.toInt + (8)) := hid_hr_18
        have hin_19 : vp_in x_17 (zn K (zr K a0 0)) := vp_in_iff.mpr (by rw [(hf_11.2.2 (by decide))]; exact hr_18.in)
        refine mld_40 C hs hP hf_11.1 hf_11.2.1 hin_19 dX12_deal_71 ?_
        have ep_20 : x_17.toNatClampNeg = (x_4.toInt + 8).toNat := z_posE hi_hr_18
        rw [ep_20]
        clear ep_20
        refine lv_aload_n hx hb dX12_deal_72 rfl (lv_at hl 1 rfl) ?_
        refine mg_0 C hs hP ha0 hk0 wf_X12_8 dX12_deal_73 ?_
        refine lv_iload hx hb dX12_deal_76 (lv_at hl 0 rfl) ?_
        refine lv_bipush (v := 7) hx hb dX12_deal_78 (by decide) ?_
        refine lv_iadd hx hb dX12_deal_80 ?_
        refine lv_topi (fun x_21 ex_21 => ?_)
        have hi_hr_22 : zEq x_21.toInt (x_4.toInt + 7) := by
          obtain ⟨f_21, l_21, u_21⟩ := z_add ex_21 rfl ti_7
          try replace f_21 : x_21.toInt = x_4.toInt + 7 := by omega
          clear l_21 u_21
          show x_21.toInt = (x_4.toInt + 7)
          omega
        have hl_hr_22 : (7 : Int) ≤ 7 ∧ 7 ≤ (7 : Int) := by decide
        have hid_hr_22 : (x_4.toInt + 7) = x_4.toInt + (7) := by simp only [Int.add_assoc, Int.add_sub_assoc]
        have hr_22 := z_cell (lo := 2) (hi := 8) hbs_5 hi_hr_22 hid_hr_22 hl_hr_22 (by decide)
        replace hid_hr_22 : zEq (x_4.toInt + 7) (x_4.toInt + (7)) := hid_hr_22
        have hin_23 : vp_in x_21 (zn K (zr K a0 0)) := vp_in_iff.mpr (by rw [(hf_11.2.2 (by decide))]; exact hr_22.in)
        refine mld_40 C hs hP hf_11.1 hf_11.2.1 hin_23 dX12_deal_81 ?_
        have ep_24 : x_21.toNatClampNeg = (x_4.toInt + 7).toNat := z_posE hi_hr_22
        rw [ep_24]
        clear ep_24
        refine bi_lt (tgt := 88) hx hb rfl rfl dX12_deal_82 (by decide) (fun c_25 => ?_) (fun c_25 => ?_)
        · skip
          refine lv_aload_n hx hb dX12_deal_88 rfl (lv_at hl 1 rfl) ?_
          refine lv_iload_n hx hb dX12_deal_89 rfl (lv_at hl 2 rfl) ?_
          have hTo := hT
          have hq_26 : 0 ≤ x1.toInt ∧ x1.toInt ≤ 3 := by (first | assumption | omega | (intros; omega))
          refine mcV (zrV (As := [.int x1]) (b := a0) (rest := []) C hs hP hS (c_X12_keep l D K hM f A hT a0 ha0 hk0 x1 hq_26) m_X12_keep wm_X12_165 (zrecv hs hP ha0 (zF_11 hk0) rfl) ⟨by decide, by decide⟩ hl.1 (Nat.le_of_ble_eq_true rfl) dX12_deal_90) hS (fun f_27 A_27 H locs p_27 hP hS => ?_)
          obtain ⟨hT, hA_27, hF_27, hC_27, pp_27⟩ := p_27
          have pp_27 : (f_27 23).toInt = -1 ∧ (∀ n9 : Int, aR (A 40) n9 → aR (A_27 40) n9) := pp_27
          have pp0_27 := zHid.mk pp_27
          have FA := frA FA hA_27 (by decide)
          have FF := frF FF hF_27 (by decide)
          have aRc := pp0_27.2 _ aRc
          refine lv_aload_n hx hb dX12_deal_93 rfl (lv_at hl 1 rfl) ?_
          refine lv_iload hx hb dX12_deal_94 (lv_at hl 0 rfl) ?_
          refine lv_iload_n hx hb dX12_deal_96 rfl (lv_at hl 3 rfl) ?_
          refine lv_iload_n hx hb dX12_deal_97 rfl (lv_at hl 4 rfl) ?_
          have hTo := hT
          have g_28 := z_rng x2
          have ev_30 : f_27 11 = f 11 := by rw [hF_27 11 (by decide)]
          have hbo_31 : x_4.toInt = 1290 * x1.toInt := by omega
          have hq_29 : (f_27 11).toInt ≤ 1990000000 := by rw [ev_30] <;> (first | assumption | omega | (intros; omega))
          refine mcV (zrV (As := [.int x_4, .int x2, .int x3]) (b := a0) (rest := []) C hs hP hS (c_X12_dealOut l D K hM f_27 A_27 hT a0 ha0 hk0 x_4 x2 x3 hbs_5 hq_29) m_X12_dealOut wm_X12_168 (zrecv hs hP ha0 (zF_11 hk0) rfl) ⟨by decide, by decide⟩ hl.1 (Nat.le_of_ble_eq_true rfl) dX12_deal_98) hS (fun f_32 A_32 H locs p_32 hP hS => ?_)
          obtain ⟨hT, hA_32, hF_32, hC_32, pp_32⟩ := p_32
          have pp_32 : (f_27 11).toInt ≤ (f_32 11).toInt ∧ (f_32 11).toInt ≤ (f_27 11).toInt + 1 ∧ ((f_27 12).toInt ≠ 0 → (f_32 11).toInt = (f_27 11).toInt) ∧ rowN (A_32 40) x_4.toInt ∧ (A_32 40 (x_4.toInt + 44).toNat).toInt = 0 := pp_32
          have pp0_32 := zHid.mk pp_32
          have ev_33 : f_27 11 = f 11 := by rw [hF_27 11 (by decide)]
          have ev_34 : f_27 12 = f 12 := by rw [hF_27 12 (by decide)]
          rw [ev_33, ev_34] at pp_32
          have pa_32 := pp_32.1
          have pb_32 := pp_32.2.1
          have qq_32 := zHid.mk pp_32.2.2.1
          replace pp_32 := pp_32.2.2.2
          have FA := frA FA hA_32 (by decide)
          have FF := frF FF hF_32 (by decide)
          have aRc := aR.dl (t := x1.toInt) aRc hTo (by omega) (fC.mv hC_32 (by omega)) (by decide) (by rw [← hbo_31]; exact pp0_32.2.2.2.1) (by rw [← hbo_31]; exact pp0_32.2.2.2.2) (by omega) (by decide) (by decide)
          refine lv_aload_n hx hb dX12_deal_101 rfl (lv_at hl 1 rfl) ?_
          refine lv_iload hx hb dX12_deal_102 (lv_at hl 0 rfl) ?_
          refine lv_iconst (v := 0) hx hb dX12_deal_104 (by decide) ?_
          refine lv_iload_n hx hb dX12_deal_105 rfl (lv_at hl 3 rfl) ?_
          refine lv_iload_n hx hb dX12_deal_106 rfl (lv_at hl 4 rfl) ?_
          refine lv_iconst (v := 0) hx hb dX12_deal_107 (by decide) ?_
          have hTo := hT
          have hq_35 : (A_32 40 (x_4.toInt + 44).toNat).toInt ≤ 1000000000 := by (have h9 := (aRc x1.toInt (by omega) (by omega)).2.2; rw [← hbo_31] at h9; omega)
          refine mcV (zrV (As := [.int x_4, .int 0, .int x2, .int x3, .int 0]) (b := a0) (rest := []) C hs hP hS (c_X12_tell l D K hM f_32 A_32 hT a0 ha0 hk0 x_4 0 x2 x3 0 hbs_5 hq_35) m_X12_tell wm_X12_171 (zrecv hs hP ha0 (zF_11 hk0) rfl) ⟨by decide, by decide⟩ hl.1 (Nat.le_of_ble_eq_true rfl) dX12_deal_108) hS (fun f_36 A_36 H locs p_36 hP hS => ?_)
          obtain ⟨hT, hA_36, hF_36, hC_36, pp_36⟩ := p_36
          have pp_36 : (A_36 40 (x_4.toInt + 44).toNat).toInt = (A_32 40 (x_4.toInt + 44).toNat).toInt + 1 ∧ (((0 : Int32).toInt ≠ 0 → 0 ≤ x2.toInt ∧ x2.toInt ≤ 3) → ((0 : Int32).toInt = 1 → 0 ≤ x3.toInt ∧ x3.toInt < (A_32 40 (x_4.toInt + 1).toNat).toInt) → ((0 : Int32).toInt = 6 → x2.toInt ≤ 1) → tO (A_32 40) x_4.toInt → tO (A_36 40) x_4.toInt) := pp_36
          have pp0_36 := zHid.mk pp_36
          try simp only [ti_0] at pp_36
          have hff_36 : f_32 = f_36 := funext (fun k9 => (hF_36 k9 List.not_mem_nil).symm)
          subst hff_36
          have FA := frA FA hA_36 (by decide)
          have FF := frF FF hF_36 (by decide)
          have aRc := aR.tl (t := x1.toInt) aRc hTo (by omega) (fC.mv hC_36 (by omega)) (by rw [← hbo_31]; exact pp0_36.1) (by rw [← hbo_31]; exact pp0_36.2 (fun h9 => absurd ti_0 h9) (fun h9 => absurd h9 (by rw [ti_0]; decide)) (fun h9 => absurd h9 (by rw [ti_0]; decide)))
          refine lv_aload_n hx hb dX12_deal_111 rfl (lv_at hl 1 rfl) ?_
          refine lv_dup hx hb dX12_deal_112 rfl ?_
          refine mg_6 C hs hP ha0 hk0 wf_X12_175 dX12_deal_113 ?_
          have ev_37 : f_32 6 = f 6 := by rw [hF_32 6 (by decide), hF_27 6 (by decide)]
          rw [ev_37]
          refine lv_iconst (v := 1) hx hb dX12_deal_116 (by decide) ?_
          refine lv_iadd hx hb dX12_deal_117 ?_
          refine lv_topi (fun x_38 ex_38 => ?_)
          refine mp_6 C hM hs hP hS ha0 hT hk0 wf_X12_175 trivial dX12_deal_118 (fun f_39 H locs hE_39 hT hP hS => ?_)
          have FF := frF FF (frFu hE_39) (by decide)
          refine lv_aload_n hx hb dX12_deal_121 rfl (lv_at hl 1 rfl) ?_
          refine mg_0 C hs hP ha0 hk0 wf_X12_8 dX12_deal_122 ?_
          refine lv_iload hx hb dX12_deal_125 (lv_at hl 0 rfl) ?_
          refine lv_bipush (v := 8) hx hb dX12_deal_127 (by decide) ?_
          refine lv_iadd hx hb dX12_deal_129 ?_
          refine lv_topi (fun x_40 ex_40 => ?_)
          refine lv_dup2_11 hx hb dX12_deal_130 rfl rfl ?_
          have hi_hr_41 : zEq x_40.toInt (x_4.toInt + 8) := by
            obtain ⟨f_40, l_40, u_40⟩ := z_add ex_40 rfl ti_8
            try replace f_40 : x_40.toInt = x_4.toInt + 8 := by omega
            clear l_40 u_40
            show x_40.toInt = (x_4.toInt + 8)
            omega
          have hl_hr_41 : (8 : Int) ≤ 8 ∧ 8 ≤ (8 : Int) := by decide
          have hid_hr_41 : (x_4.toInt + 8) = x_4.toInt + (8) := by simp only [Int.add_assoc, Int.add_sub_assoc]
          have hr_41 := z_cell (lo := 2) (hi := 8) hbs_5 hi_hr_41 hid_hr_41 hl_hr_41 (by decide)
          replace hid_hr_41 : zEq (x_4.toInt + 8) (x_4.toInt + (8)) := hid_hr_41
          have hin_42 : vp_in x_40 (zn K (zr K a0 0)) := vp_in_iff.mpr (by rw [(hf_11.2.2 (by decide))]; exact hr_41.in)
          refine mld_40 C hs hP hf_11.1 hf_11.2.1 hin_42 dX12_deal_131 ?_
          have ep_43 : x_40.toNatClampNeg = (x_4.toInt + 8).toNat := z_posE hi_hr_41
          rw [ep_43]
          obtain ⟨f_40, l_40, u_40⟩ := z_add ex_40 rfl ti_8
          try replace f_40 : x_40.toInt = x_4.toInt + 8 := by omega
          clear l_40 u_40
          have hc_44 := hC_36.ar (by omega) (lo := 8) (hi := 8) (by decide) (x_4.toInt + 8) (by decide) (by omega) (by omega)
          have hc_45 := hC_32.ar (by omega) (lo := 8) (hi := 8) (by decide) (x_4.toInt + 8) (by decide) (by omega) (by omega)
          have hc_46 := hC_27.ar (by omega) (lo := 0) (hi := 6449) (by decide) (x_4.toInt + 8) (by decide) (by omega) (by omega)
          have ev_47 : A_36 40 (x_4.toInt + 8).toNat = A 40 (x_4.toInt + 8).toNat := by rw [hc_44, hc_45, hc_46]
          rw [ev_47]
          clear ep_43
          refine lv_iconst (v := 1) hx hb dX12_deal_132 (by decide) ?_
          refine lv_iadd hx hb dX12_deal_133 ?_
          refine lv_topi (fun x_48 ex_48 => ?_)
          have hTo := hT
          have hin_49 : vp_in x_40 (zn K (zr K a0 0)) := vp_in_iff.mpr (by rw [(hf_11.2.2 (by decide))]; exact hr_41.in)
          refine mst_40 C hM hs hP hS hf_11.1 hT hf_11.2.1 hin_49 (tp_2 hr_41) dX12_deal_134 (fun A_50 H locs hE_50 hT hP hS => ?_)
          have ep_51 : x_40.toNatClampNeg = (x_4.toInt + 8).toNat := z_posE hi_hr_41
          rw [ep_51] at hE_50
          clear ep_51
          have FA := frA FA (frAu hE_50) (by decide)
          have fcs_50 : fC (A_36 40) (A_50 40) (1290 * x1.toInt) [(8, 8)] := fC.s2 hE_50 (by omega) (by decide) (by omega)
          have aRc := aR.fw (t := x1.toInt) aRc hTo (by omega) fcs_50 (by decide) (wz_of fcs_50 (by omega) (by decide)) (by decide) (by decide) (by decide) (by decide) (by decide) (by decide) (by decide) (by decide) (by decide)
          refine lv_aload_n hx hb dX12_deal_135 rfl (lv_at hl 1 rfl) ?_
          refine mg_0 C hs hP ha0 hk0 wf_X12_8 dX12_deal_136 ?_
          refine lv_iload hx hb dX12_deal_139 (lv_at hl 0 rfl) ?_
          refine lv_bipush (v := 6) hx hb dX12_deal_141 (by decide) ?_
          refine lv_iadd hx hb dX12_deal_143 ?_
          refine lv_topi (fun x_52 ex_52 => ?_)
          refine lv_aload_n hx hb dX12_deal_144 rfl (lv_at hl 1 rfl) ?_
          refine mg_6 C hs hP ha0 hk0 wf_X12_175 dX12_deal_145 ?_
          have ev_53 : f_39 6 = x_38 := by rw [hE_39, pk_us]
          rw [ev_53]
          have hTo := hT
          have hi_hr_54 : zEq x_52.toInt (x_4.toInt + 6) := by
            obtain ⟨f_52, l_52, u_52⟩ := z_add ex_52 rfl ti_6
            try replace f_52 : x_52.toInt = x_4.toInt + 6 := by omega
            clear l_52 u_52
            show x_52.toInt = (x_4.toInt + 6)
            omega
          have hl_hr_54 : (6 : Int) ≤ 6 ∧ 6 ≤ (6 : Int) := by decide
          have hid_hr_54 : (x_4.toInt + 6) = x_4.toInt + (6) := by simp only [Int.add_assoc, Int.add_sub_assoc]
          have hr_54 := z_cell (lo := 2) (hi := 8) hbs_5 hi_hr_54 hid_hr_54 hl_hr_54 (by decide)
          replace hid_hr_54 : zEq (x_4.toInt + 6) (x_4.toInt + (6)) := hid_hr_54
          have hin_55 : vp_in x_52 (zn K (zr K a0 0)) := vp_in_iff.mpr (by rw [(hf_11.2.2 (by decide))]; exact hr_54.in)
          refine mst_40 C hM hs hP hS hf_11.1 hT hf_11.2.1 hin_55 (tp_2 hr_54) dX12_deal_148 (fun A_56 H locs hE_56 hT hP hS => ?_)
          have ep_57 : x_52.toNatClampNeg = (x_4.toInt + 6).toNat := z_posE hi_hr_54
          rw [ep_57] at hE_56
          clear ep_57
          have FA := frA FA (frAu hE_56) (by decide)
          have fcs_56 : fC (A_50 40) (A_56 40) (1290 * x1.toInt) [(6, 6)] := fC.s2 hE_56 (by omega) (by decide) (by omega)
          have aRc := aR.fw (t := x1.toInt) aRc hTo (by omega) fcs_56 (by decide) (wz_of fcs_56 (by omega) (by decide)) (by decide) (by decide) (by decide) (by decide) (by decide) (by decide) (by decide) (by decide) (by decide)
          refine lv_aload_n hx hb dX12_deal_149 rfl (lv_at hl 1 rfl) ?_
          refine mg_6 C hs hP ha0 hk0 wf_X12_175 dX12_deal_150 ?_
          have ev_58 : f_39 6 = x_38 := by rw [hE_39, pk_us]
          rw [ev_58]
          have ev_59 : f_39 11 = f_32 11 := by rw [hE_39, pk_un (show 11 ≠ 6 by decide)]
          have ev_60 : f_39 9 = f 9 := by rw [hE_39, pk_un (show 9 ≠ 6 by decide), hF_32 9 (by decide), hF_27 9 (by decide)]
          have ev_61 : f_39 23 = f_27 23 := by rw [hE_39, pk_un (show 23 ≠ 6 by decide), hF_32 23 (by decide)]
          exact maI hQ hx hb hr hlk hP hS ⟨hT, FA, FF, ⟨(aRc.mono (by omega)), (cOk.m1 (by rw [ev_61]; exact pp0_27.1)), by rw [ev_59] <;> omega, by rw [ev_60] <;> omega⟩⟩ dX12_deal_153
        · skip
          refine lv_bipush (v := (-4)) hx hb dX12_deal_85 (by decide) ?_
          exact maI hQ hx hb hr hlk hP hS ⟨hT, FA, FF, ⟨(aRc.mono (by omega)), hp0.2.1, by omega, by omega⟩⟩ dX12_deal_87
      · skip
        refine lv_aload_n hx hb dX12_deal_48 rfl (lv_at hl 1 rfl) ?_
        refine mg_0 C hs hP ha0 hk0 wf_X12_8 dX12_deal_49 ?_
        refine lv_iload hx hb dX12_deal_52 (lv_at hl 0 rfl) ?_
        refine lv_bipush (v := 9) hx hb dX12_deal_54 (by decide) ?_
        refine lv_iadd hx hb dX12_deal_56 ?_
        refine lv_topi (fun x_62 ex_62 => ?_)
        have hi_hr_63 : zEq x_62.toInt (x_4.toInt + 9) := by
          obtain ⟨f_62, l_62, u_62⟩ := z_add ex_62 rfl ti_9
          try replace f_62 : x_62.toInt = x_4.toInt + 9 := by omega
          clear l_62 u_62
          show x_62.toInt = (x_4.toInt + 9)
          omega
        have hl_hr_63 : (9 : Int) ≤ 9 ∧ 9 ≤ (9 : Int) := by decide
        have hid_hr_63 : (x_4.toInt + 9) = x_4.toInt + (9) := by simp only [Int.add_assoc, Int.add_sub_assoc]
        have hr_63 := z_cell (lo := 9) (hi := 9) hbs_5 hi_hr_63 hid_hr_63 hl_hr_63 (by decide)
        replace hid_hr_63 : zEq (x_4.toInt + 9) (x_4.toInt + (9)) := hid_hr_63
        have hin_64 : vp_in x_62 (zn K (zr K a0 0)) := vp_in_iff.mpr (by rw [(hf_11.2.2 (by decide))]; exact hr_63.in)
        refine mld_40 C hs hP hf_11.1 hf_11.2.1 hin_64 dX12_deal_57 ?_
        have ep_65 : x_62.toNatClampNeg = (x_4.toInt + 9).toNat := z_posE hi_hr_63
        rw [ep_65]
        have tv_66 := rv_9 hT hr_63
        rw [ep_65] at tv_66
        clear ep_65
        refine lv_iconst (v := (-1)) hx hb dX12_deal_58 (by decide) ?_
        refine bi_ne (tgt := 85) hx hb rfl ti_m1 dX12_deal_59 (by decide) (fun c_67 => ?_) (fun c_67 => ?_)
        · skip
          refine lv_bipush (v := (-4)) hx hb dX12_deal_85 (by decide) ?_
          exact maI hQ hx hb hr hlk hP hS ⟨hT, FA, FF, ⟨(aRc.mono (by omega)), hp0.2.1, by omega, by omega⟩⟩ dX12_deal_87
        · skip
          refine lv_aload_n hx hb dX12_deal_62 rfl (lv_at hl 1 rfl) ?_
          refine mg_0 C hs hP ha0 hk0 wf_X12_8 dX12_deal_63 ?_
          refine lv_iload hx hb dX12_deal_66 (lv_at hl 0 rfl) ?_
          refine lv_bipush (v := 8) hx hb dX12_deal_68 (by decide) ?_
          refine lv_iadd hx hb dX12_deal_70 ?_
          refine lv_topi (fun x_68 ex_68 => ?_)
          have hi_hr_69 : zEq x_68.toInt (x_4.toInt + 8) := by
            obtain ⟨f_68, l_68, u_68⟩ := z_add ex_68 rfl ti_8
            try replace f_68 : x_68.toInt = x_4.toInt + 8 := by omega
            clear l_68 u_68
            show x_68.toInt = (x_4.toInt + 8)
            omega
          have hl_hr_69 : (8 : Int) ≤ 8 ∧ 8 ≤ (8 : Int) := by decide
          have hid_hr_69 : (x_4.toInt + 8) = x_4.toInt + (8) := by simp only [Int.add_assoc, Int.add_sub_assoc]
          have hr_69 := z_cell (lo := 2) (hi := 8) hbs_5 hi_hr_69 hid_hr_69 hl_hr_69 (by decide)
          replace hid_hr_69 : zEq (x_4.toInt + 8) (x_4.toInt + (8)) := hid_hr_69
          have hin_70 : vp_in x_68 (zn K (zr K a0 0)) := vp_in_iff.mpr (by rw [(hf_11.2.2 (by decide))]; exact hr_69.in)
          refine mld_40 C hs hP hf_11.1 hf_11.2.1 hin_70 dX12_deal_71 ?_
          have ep_71 : x_68.toNatClampNeg = (x_4.toInt + 8).toNat := z_posE hi_hr_69
          rw [ep_71]
          clear ep_71
          refine lv_aload_n hx hb dX12_deal_72 rfl (lv_at hl 1 rfl) ?_
          refine mg_0 C hs hP ha0 hk0 wf_X12_8 dX12_deal_73 ?_
          refine lv_iload hx hb dX12_deal_76 (lv_at hl 0 rfl) ?_
          refine lv_bipush (v := 7) hx hb dX12_deal_78 (by decide) ?_
          refine lv_iadd hx hb dX12_deal_80 ?_
          refine lv_topi (fun x_72 ex_72 => ?_)
          have hi_hr_73 : zEq x_72.toInt (x_4.toInt + 7) := by
            obtain ⟨f_72, l_72, u_72⟩ := z_add ex_72 rfl ti_7
            try replace f_72 : x_72.toInt = x_4.toInt + 7 := by omega
            clear l_72 u_72
            show x_72.toInt = (x_4.toInt + 7)
            omega
          have hl_hr_73 : (7 : Int) ≤ 7 ∧ 7 ≤ (7 : Int) := by decide
          have hid_hr_73 : (x_4.toInt + 7) = x_4.toInt + (7) := by simp only [Int.add_assoc, Int.add_sub_assoc]
          have hr_73 := z_cell (lo := 2) (hi := 8) hbs_5 hi_hr_73 hid_hr_73 hl_hr_73 (by decide)
          replace hid_hr_73 : zEq (x_4.toInt + 7) (x_4.toInt + (7)) := hid_hr_73
          have hin_74 : vp_in x_72 (zn K (zr K a0 0)) := vp_in_iff.mpr (by rw [(hf_11.2.2 (by decide))]; exact hr_73.in)
          refine mld_40 C hs hP hf_11.1 hf_11.2.1 hin_74 dX12_deal_81 ?_
          have ep_75 : x_72.toNatClampNeg = (x_4.toInt + 7).toNat := z_posE hi_hr_73
          rw [ep_75]
          clear ep_75
          refine bi_lt (tgt := 88) hx hb rfl rfl dX12_deal_82 (by decide) (fun c_76 => ?_) (fun c_76 => ?_)
          · skip
            refine lv_aload_n hx hb dX12_deal_88 rfl (lv_at hl 1 rfl) ?_
            refine lv_iload_n hx hb dX12_deal_89 rfl (lv_at hl 2 rfl) ?_
            have hTo := hT
            have hq_77 : 0 ≤ x1.toInt ∧ x1.toInt ≤ 3 := by (first | assumption | omega | (intros; omega))
            refine mcV (zrV (As := [.int x1]) (b := a0) (rest := []) C hs hP hS (c_X12_keep l D K hM f A hT a0 ha0 hk0 x1 hq_77) m_X12_keep wm_X12_165 (zrecv hs hP ha0 (zF_11 hk0) rfl) ⟨by decide, by decide⟩ hl.1 (Nat.le_of_ble_eq_true rfl) dX12_deal_90) hS (fun f_78 A_78 H locs p_78 hP hS => ?_)
            obtain ⟨hT, hA_78, hF_78, hC_78, pp_78⟩ := p_78
            have pp_78 : (f_78 23).toInt = -1 ∧ (∀ n9 : Int, aR (A 40) n9 → aR (A_78 40) n9) := pp_78
            have pp0_78 := zHid.mk pp_78
            have FA := frA FA hA_78 (by decide)
            have FF := frF FF hF_78 (by decide)
            have aRc := pp0_78.2 _ aRc
            refine lv_aload_n hx hb dX12_deal_93 rfl (lv_at hl 1 rfl) ?_
            refine lv_iload hx hb dX12_deal_94 (lv_at hl 0 rfl) ?_
            refine lv_iload_n hx hb dX12_deal_96 rfl (lv_at hl 3 rfl) ?_
            refine lv_iload_n hx hb dX12_deal_97 rfl (lv_at hl 4 rfl) ?_
            have hTo := hT
            have g_79 := z_rng x2
            have ev_81 : f_78 11 = f 11 := by rw [hF_78 11 (by decide)]
            have hbo_82 : x_4.toInt = 1290 * x1.toInt := by omega
            have hq_80 : (f_78 11).toInt ≤ 1990000000 := by rw [ev_81] <;> (first | assumption | omega | (intros; omega))
            refine mcV (zrV (As := [.int x_4, .int x2, .int x3]) (b := a0) (rest := []) C hs hP hS (c_X12_dealOut l D K hM f_78 A_78 hT a0 ha0 hk0 x_4 x2 x3 hbs_5 hq_80) m_X12_dealOut wm_X12_168 (zrecv hs hP ha0 (zF_11 hk0) rfl) ⟨by decide, by decide⟩ hl.1 (Nat.le_of_ble_eq_true rfl) dX12_deal_98) hS (fun f_83 A_83 H locs p_83 hP hS => ?_)
            obtain ⟨hT, hA_83, hF_83, hC_83, pp_83⟩ := p_83
            have pp_83 : (f_78 11).toInt ≤ (f_83 11).toInt ∧ (f_83 11).toInt ≤ (f_78 11).toInt + 1 ∧ ((f_78 12).toInt ≠ 0 → (f_83 11).toInt = (f_78 11).toInt) ∧ rowN (A_83 40) x_4.toInt ∧ (A_83 40 (x_4.toInt + 44).toNat).toInt = 0 := pp_83
            have pp0_83 := zHid.mk pp_83
            have ev_84 : f_78 11 = f 11 := by rw [hF_78 11 (by decide)]
            have ev_85 : f_78 12 = f 12 := by rw [hF_78 12 (by decide)]
            rw [ev_84, ev_85] at pp_83
            have pa_83 := pp_83.1
            have pb_83 := pp_83.2.1
            have qq_83 := zHid.mk pp_83.2.2.1
            replace pp_83 := pp_83.2.2.2
            have FA := frA FA hA_83 (by decide)
            have FF := frF FF hF_83 (by decide)
            have aRc := aR.dl (t := x1.toInt) aRc hTo (by omega) (fC.mv hC_83 (by omega)) (by decide) (by rw [← hbo_82]; exact pp0_83.2.2.2.1) (by rw [← hbo_82]; exact pp0_83.2.2.2.2) (by omega) (by decide) (by decide)
            refine lv_aload_n hx hb dX12_deal_101 rfl (lv_at hl 1 rfl) ?_
            refine lv_iload hx hb dX12_deal_102 (lv_at hl 0 rfl) ?_
            refine lv_iconst (v := 0) hx hb dX12_deal_104 (by decide) ?_
            refine lv_iload_n hx hb dX12_deal_105 rfl (lv_at hl 3 rfl) ?_
            refine lv_iload_n hx hb dX12_deal_106 rfl (lv_at hl 4 rfl) ?_
            refine lv_iconst (v := 0) hx hb dX12_deal_107 (by decide) ?_
            have hTo := hT
            have hq_86 : (A_83 40 (x_4.toInt + 44).toNat).toInt ≤ 1000000000 := by (have h9 := (aRc x1.toInt (by omega) (by omega)).2.2; rw [← hbo_82] at h9; omega)
            refine mcV (zrV (As := [.int x_4, .int 0, .int x2, .int x3, .int 0]) (b := a0) (rest := []) C hs hP hS (c_X12_tell l D K hM f_83 A_83 hT a0 ha0 hk0 x_4 0 x2 x3 0 hbs_5 hq_86) m_X12_tell wm_X12_171 (zrecv hs hP ha0 (zF_11 hk0) rfl) ⟨by decide, by decide⟩ hl.1 (Nat.le_of_ble_eq_true rfl) dX12_deal_108) hS (fun f_87 A_87 H locs p_87 hP hS => ?_)
            obtain ⟨hT, hA_87, hF_87, hC_87, pp_87⟩ := p_87
            have pp_87 : (A_87 40 (x_4.toInt + 44).toNat).toInt = (A_83 40 (x_4.toInt + 44).toNat).toInt + 1 ∧ (((0 : Int32).toInt ≠ 0 → 0 ≤ x2.toInt ∧ x2.toInt ≤ 3) → ((0 : Int32).toInt = 1 → 0 ≤ x3.toInt ∧ x3.toInt < (A_83 40 (x_4.toInt + 1).toNat).toInt) → ((0 : Int32).toInt = 6 → x2.toInt ≤ 1) → tO (A_83 40) x_4.toInt → tO (A_87 40) x_4.toInt) := pp_87
            have pp0_87 := zHid.mk pp_87
            try simp only [ti_0] at pp_87
            have hff_87 : f_83 = f_87 := funext (fun k9 => (hF_87 k9 List.not_mem_nil).symm)
            subst hff_87
            have FA := frA FA hA_87 (by decide)
            have FF := frF FF hF_87 (by decide)
            have aRc := aR.tl (t := x1.toInt) aRc hTo (by omega) (fC.mv hC_87 (by omega)) (by rw [← hbo_82]; exact pp0_87.1) (by rw [← hbo_82]; exact pp0_87.2 (fun h9 => absurd ti_0 h9) (fun h9 => absurd h9 (by rw [ti_0]; decide)) (fun h9 => absurd h9 (by rw [ti_0]; decide)))
            refine lv_aload_n hx hb dX12_deal_111 rfl (lv_at hl 1 rfl) ?_
            refine lv_dup hx hb dX12_deal_112 rfl ?_
            refine mg_6 C hs hP ha0 hk0 wf_X12_175 dX12_deal_113 ?_
            have ev_88 : f_83 6 = f 6 := by rw [hF_83 6 (by decide), hF_78 6 (by decide)]
            rw [ev_88]
            refine lv_iconst (v := 1) hx hb dX12_deal_116 (by decide) ?_
            refine lv_iadd hx hb dX12_deal_117 ?_
            refine lv_topi (fun x_89 ex_89 => ?_)
            refine mp_6 C hM hs hP hS ha0 hT hk0 wf_X12_175 trivial dX12_deal_118 (fun f_90 H locs hE_90 hT hP hS => ?_)
            have FF := frF FF (frFu hE_90) (by decide)
            refine lv_aload_n hx hb dX12_deal_121 rfl (lv_at hl 1 rfl) ?_
            refine mg_0 C hs hP ha0 hk0 wf_X12_8 dX12_deal_122 ?_
            refine lv_iload hx hb dX12_deal_125 (lv_at hl 0 rfl) ?_
            refine lv_bipush (v := 8) hx hb dX12_deal_127 (by decide) ?_
            refine lv_iadd hx hb dX12_deal_129 ?_
            refine lv_topi (fun x_91 ex_91 => ?_)
            refine lv_dup2_11 hx hb dX12_deal_130 rfl rfl ?_
            have hi_hr_92 : zEq x_91.toInt (x_4.toInt + 8) := by
              obtain ⟨f_91, l_91, u_91⟩ := z_add ex_91 rfl ti_8
              try replace f_91 : x_91.toInt = x_4.toInt + 8 := by omega
              clear l_91 u_91
              show x_91.toInt = (x_4.toInt + 8)
              omega
            have hl_hr_92 : (8 : Int) ≤ 8 ∧ 8 ≤ (8 : Int) := by decide
            have hid_hr_92 : (x_4.toInt + 8) = x_4.toInt + (8) := by simp only [Int.add_assoc, Int.add_sub_assoc]
            have hr_92 := z_cell (lo := 2) (hi := 8) hbs_5 hi_hr_92 hid_hr_92 hl_hr_92 (by decide)
            replace hid_hr_92 : zEq (x_4.toInt + 8) (x_4.toInt + (8)) := hid_hr_92
            have hin_93 : vp_in x_91 (zn K (zr K a0 0)) := vp_in_iff.mpr (by rw [(hf_11.2.2 (by decide))]; exact hr_92.in)
            refine mld_40 C hs hP hf_11.1 hf_11.2.1 hin_93 dX12_deal_131 ?_
            have ep_94 : x_91.toNatClampNeg = (x_4.toInt + 8).toNat := z_posE hi_hr_92
            rw [ep_94]
            obtain ⟨f_91, l_91, u_91⟩ := z_add ex_91 rfl ti_8
            try replace f_91 : x_91.toInt = x_4.toInt + 8 := by omega
            clear l_91 u_91
            have hc_95 := hC_87.ar (by omega) (lo := 8) (hi := 8) (by decide) (x_4.toInt + 8) (by decide) (by omega) (by omega)
            have hc_96 := hC_83.ar (by omega) (lo := 8) (hi := 8) (by decide) (x_4.toInt + 8) (by decide) (by omega) (by omega)
            have hc_97 := hC_78.ar (by omega) (lo := 0) (hi := 6449) (by decide) (x_4.toInt + 8) (by decide) (by omega) (by omega)
            have ev_98 : A_87 40 (x_4.toInt + 8).toNat = A 40 (x_4.toInt + 8).toNat := by rw [hc_95, hc_96, hc_97]
            rw [ev_98]
            clear ep_94
            refine lv_iconst (v := 1) hx hb dX12_deal_132 (by decide) ?_
            refine lv_iadd hx hb dX12_deal_133 ?_
            refine lv_topi (fun x_99 ex_99 => ?_)
            have hTo := hT
            have hin_100 : vp_in x_91 (zn K (zr K a0 0)) := vp_in_iff.mpr (by rw [(hf_11.2.2 (by decide))]; exact hr_92.in)
            refine mst_40 C hM hs hP hS hf_11.1 hT hf_11.2.1 hin_100 (tp_2 hr_92) dX12_deal_134 (fun A_101 H locs hE_101 hT hP hS => ?_)
            have ep_102 : x_91.toNatClampNeg = (x_4.toInt + 8).toNat := z_posE hi_hr_92
            rw [ep_102] at hE_101
            clear ep_102
            have FA := frA FA (frAu hE_101) (by decide)
            have fcs_101 : fC (A_87 40) (A_101 40) (1290 * x1.toInt) [(8, 8)] := fC.s2 hE_101 (by omega) (by decide) (by omega)
            have aRc := aR.fw (t := x1.toInt) aRc hTo (by omega) fcs_101 (by decide) (wz_of fcs_101 (by omega) (by decide)) (by decide) (by decide) (by decide) (by decide) (by decide) (by decide) (by decide) (by decide) (by decide)
            refine lv_aload_n hx hb dX12_deal_135 rfl (lv_at hl 1 rfl) ?_
            refine mg_0 C hs hP ha0 hk0 wf_X12_8 dX12_deal_136 ?_
            refine lv_iload hx hb dX12_deal_139 (lv_at hl 0 rfl) ?_
            refine lv_bipush (v := 6) hx hb dX12_deal_141 (by decide) ?_
            refine lv_iadd hx hb dX12_deal_143 ?_
            refine lv_topi (fun x_103 ex_103 => ?_)
            refine lv_aload_n hx hb dX12_deal_144 rfl (lv_at hl 1 rfl) ?_
            refine mg_6 C hs hP ha0 hk0 wf_X12_175 dX12_deal_145 ?_
            have ev_104 : f_90 6 = x_89 := by rw [hE_90, pk_us]
            rw [ev_104]
            have hTo := hT
            have hi_hr_105 : zEq x_103.toInt (x_4.toInt + 6) := by
              obtain ⟨f_103, l_103, u_103⟩ := z_add ex_103 rfl ti_6
              try replace f_103 : x_103.toInt = x_4.toInt + 6 := by omega
              clear l_103 u_103
              show x_103.toInt = (x_4.toInt + 6)
              omega
            have hl_hr_105 : (6 : Int) ≤ 6 ∧ 6 ≤ (6 : Int) := by decide
            have hid_hr_105 : (x_4.toInt + 6) = x_4.toInt + (6) := by simp only [Int.add_assoc, Int.add_sub_assoc]
            have hr_105 := z_cell (lo := 2) (hi := 8) hbs_5 hi_hr_105 hid_hr_105 hl_hr_105 (by decide)
            replace hid_hr_105 : zEq (x_4.toInt + 6) (x_4.toInt + (6)) := hid_hr_105
            have hin_106 : vp_in x_103 (zn K (zr K a0 0)) := vp_in_iff.mpr (by rw [(hf_11.2.2 (by decide))]; exact hr_105.in)
            refine mst_40 C hM hs hP hS hf_11.1 hT hf_11.2.1 hin_106 (tp_2 hr_105) dX12_deal_148 (fun A_107 H locs hE_107 hT hP hS => ?_)
            have ep_108 : x_103.toNatClampNeg = (x_4.toInt + 6).toNat := z_posE hi_hr_105
            rw [ep_108] at hE_107
            clear ep_108
            have FA := frA FA (frAu hE_107) (by decide)
            have fcs_107 : fC (A_101 40) (A_107 40) (1290 * x1.toInt) [(6, 6)] := fC.s2 hE_107 (by omega) (by decide) (by omega)
            have aRc := aR.fw (t := x1.toInt) aRc hTo (by omega) fcs_107 (by decide) (wz_of fcs_107 (by omega) (by decide)) (by decide) (by decide) (by decide) (by decide) (by decide) (by decide) (by decide) (by decide) (by decide)
            refine lv_aload_n hx hb dX12_deal_149 rfl (lv_at hl 1 rfl) ?_
            refine mg_6 C hs hP ha0 hk0 wf_X12_175 dX12_deal_150 ?_
            have ev_109 : f_90 6 = x_89 := by rw [hE_90, pk_us]
            rw [ev_109]
            have ev_110 : f_90 11 = f_83 11 := by rw [hE_90, pk_un (show 11 ≠ 6 by decide)]
            have ev_111 : f_90 9 = f 9 := by rw [hE_90, pk_un (show 9 ≠ 6 by decide), hF_83 9 (by decide), hF_78 9 (by decide)]
            have ev_112 : f_90 23 = f_78 23 := by rw [hE_90, pk_un (show 23 ≠ 6 by decide), hF_83 23 (by decide)]
            exact maI hQ hx hb hr hlk hP hS ⟨hT, FA, FF, ⟨(aRc.mono (by omega)), (cOk.m1 (by rw [ev_112]; exact pp0_78.1)), by rw [ev_110] <;> omega, by rw [ev_111] <;> omega⟩⟩ dX12_deal_153
          · skip
            refine lv_bipush (v := (-4)) hx hb dX12_deal_85 (by decide) ?_
            exact maI hQ hx hb hr hlk hP hS ⟨hT, FA, FF, ⟨(aRc.mono (by omega)), hp0.2.1, by omega, by omega⟩⟩ dX12_deal_87
    · skip
      replace pp_7 := pp_7.2 c_10
      refine lv_bipush (v := (-3)) hx hb dX12_deal_32 (by decide) ?_
      exact maI hQ hx hb hr hlk hP hS ⟨hT, FA, FF, ⟨(aRc.mono (by omega)), hp0.2.1, by omega, by omega⟩⟩ dX12_deal_34
  · skip
    clear pp_1
    refine lv_bipush (v := (-2)) hx hb dX12_deal_8 (by decide) ?_
    exact maI hQ hx hb hr hlk hP hS ⟨hT, FA, FF, ⟨(aRc.mono (by omega)), hp0.2.1, by omega, by omega⟩⟩ dX12_deal_10
set_option maxHeartbeats 4000000 in
set_option maxRecDepth 100000 in
theorem c_X12_give (l : Launch) (D : va_G) (K : zK) (hM : mK K) (f : Nat → Int32) (A : Nat → Nat → Int32) (hT : mT f A) (N : Int) (a0 : Nat) (ha0 : a0 ∈ zl K) (hk0 : zk K a0 = 11) (x1 : Int32) (x2 : Int32) (x3 : Int32) (hp0 : okk N f A) (hp1 : 0 ≤ N ∧ N ≤ 600) : Met l yX12_give (zc yX12_give cX12_give 6 (some .int)) (rmd 3) (va_Pc [.ref a0, .int x1, .int x2, .int x3] (zB D K (mV K f A))) (mQi D K (fun r f' A' => mT f' A' ∧ (∀ k, k ∉ ([40, 42] : List Nat) → A' k = A k) ∧ (∀ k, k ∉ ([23] : List Nat) → f' k = f k) ∧ okk (N + 1) f' A')) 0 0 (zA K) := by
  refine zin (by decide) (Nat.le_of_ble_eq_true rfl) ?_
  intro p e s m args below meth c ls Q hQ C hr hlk hP hs hl
  have C : CallFix p m c cX12_give 6 s args zw RX12 := C
  obtain ⟨hx, hb, hml, hown, hts⟩ := id C
  have hO := hM.1
  have hS : va_S (zA K) s.heap s.heap [] := va_S.rf
  have FA : ∀ k, k ∉ ([40, 42] : List Nat) → A k = A k := fun _ _ => rfl
  have FF : ∀ k, k ∉ ([23] : List Nat) → f k = f k := fun _ _ => rfl
  have hl : lv_has ls 6 [(0, .ref a0), (1, .int x1), (2, .int x2), (3, .int x3)] := hl
  have aRc := hp0.1
  have hbud := hp0.2.2
  refine lv_aload_n hx hb dX12_give_0 rfl (lv_at hl 0 rfl) ?_
  refine lv_iload_n hx hb dX12_give_1 rfl (lv_at hl 1 rfl) ?_
  have hTo := hT
  refine zcS (zrV (As := [.int x1]) (b := a0) (rest := []) C hs hP hS (c_X12_isTable l D K hM f A hT a0 ha0 hk0 x1) m_X12_isTable wm_X12_107 (zrecv hs hP ha0 (zF_11 hk0) rfl) ⟨by decide, by decide⟩ hl.1 (Nat.le_of_ble_eq_true rfl) dX12_give_2) (fun x_1 p_1 => ?_)
  have pp_1 : (x_1.toInt ≠ 0 → 0 ≤ x1.toInt ∧ x1.toInt ≤ 3) := p_1.2
  have g_2 := z_rng x1
  refine bz_eq (tgt := 24) hx hb rfl dX12_give_5 (by decide) (fun c_3 => ?_) (fun c_3 => ?_)
  · skip
    clear pp_1
    refine lv_bipush (v := (-2)) hx hb dX12_give_24 (by decide) ?_
    exact maI hQ hx hb hr hlk hP hS ⟨hT, FA, FF, ⟨(aRc.mono (by omega)), hp0.2.1, by omega, by omega⟩⟩ dX12_give_26
  · skip
    replace pp_1 := pp_1 c_3
    refine lv_iload_n hx hb dX12_give_8 rfl (lv_at hl 2 rfl) ?_
    have hTo := hT
    refine zcS (zrS (As := [.int x2]) (rest := []) C hs hP hS (c_X12_isSeat l D K hM f A hT x2) m_X12_isSeat wm_X12_110 ⟨by decide, by decide⟩ hl.1 (Nat.le_of_ble_eq_true rfl) dX12_give_9) (fun x_4 p_4 => ?_)
    have pp_4 : (x_4.toInt ≠ 0 → 0 ≤ x2.toInt ∧ x2.toInt ≤ 3) ∧ (x_4.toInt = 0 → x2.toInt < 0 ∨ 3 < x2.toInt) := p_4.2
    have g_5 := z_rng x2
    refine bz_eq (tgt := 24) hx hb rfl dX12_give_12 (by decide) (fun c_6 => ?_) (fun c_6 => ?_)
    · skip
      replace pp_4 := pp_4.2 c_6
      refine lv_bipush (v := (-2)) hx hb dX12_give_24 (by decide) ?_
      exact maI hQ hx hb hr hlk hP hS ⟨hT, FA, FF, ⟨(aRc.mono (by omega)), hp0.2.1, by omega, by omega⟩⟩ dX12_give_26
    · skip
      replace pp_4 := pp_4.1 c_6
      refine lv_aload_n hx hb dX12_give_15 rfl (lv_at hl 0 rfl) ?_
      refine lv_iload_n hx hb dX12_give_16 rfl (lv_at hl 1 rfl) ?_
      refine lv_iload_n hx hb dX12_give_17 rfl (lv_at hl 3 rfl) ?_
      have hTo := hT
      have g_7 := z_rng x3
      have hq_8 : 0 ≤ x1.toInt ∧ x1.toInt ≤ 3 := by (first | assumption | omega | (intros; omega))
      refine zcS (zrV (As := [.int x1, .int x3]) (b := a0) (rest := []) C hs hP hS (c2_X12_isCard l D K hM f A hT a0 ha0 hk0 x1 x3 hq_8) m_X12_isCard wm_X12_113 (zrecv hs hP ha0 (zF_11 hk0) rfl) ⟨by decide, by decide⟩ hl.1 (Nat.le_of_ble_eq_true rfl) dX12_give_18) (fun x_9 p_9 => ?_)
      have pp_9 : (x_9.toInt ≠ 0 → 0 ≤ x3.toInt ∧ x3.toInt ≤ 59 ∧ x3.toInt < (A 40 (1290 * x1.toInt + 1).toNat).toInt) := p_9.2
      refine bz_ne (tgt := 27) hx hb rfl dX12_give_21 (by decide) (fun c_10 => ?_) (fun c_10 => ?_)
      · skip
        replace pp_9 := pp_9 c_10
        refine lv_sipush (v := 1290) hx hb dX12_give_27 (by decide) ?_
        refine lv_iload_n hx hb dX12_give_30 rfl (lv_at hl 1 rfl) ?_
        refine lv_imul hx hb dX12_give_31 ?_
        refine lv_topi (fun x_11 ex_11 => ?_)
        refine lv_istore (lv' := [(4, .int x_11), (0, .ref a0), (1, .int x1), (2, .int x2), (3, .int x3)]) hx hb dX12_give_32 hl (by decide) rfl (fun ls hl => ?_)
        refine lv_aload_n hx hb dX12_give_34 rfl (lv_at hl 1 rfl) ?_
        refine lv_iload hx hb dX12_give_35 (lv_at hl 0 rfl) ?_
        refine lv_iload_n hx hb dX12_give_37 rfl (lv_at hl 3 rfl) ?_
        refine lv_iload_n hx hb dX12_give_38 rfl (lv_at hl 4 rfl) ?_
        have hTo := hT
        obtain ⟨f_11, l_11, u_11⟩ := z_mul ex_11 ti_1290 rfl
        try replace f_11 : x_11.toInt = 1290 * x1.toInt := by omega
        clear l_11 u_11
        have hbs_12 : zRow x_11.toInt := zRow.of (t := x1.toInt) (by omega) (by omega)
        have hbl_hbs_12 := hbs_12.lin
        have hbo_14 : x_11.toInt = 1290 * x1.toInt := by omega
        have hq_13 : 0 ≤ x2.toInt ∧ x2.toInt ≤ 3 := by (first | assumption | omega | (intros; omega))
        have hq_15 : 0 ≤ x3.toInt ∧ x3.toInt ≤ 59 := by (first | assumption | omega | (intros; omega))
        refine zcS (zrV (As := [.int x_11, .int x2, .int x3]) (b := a0) (rest := []) C hs hP hS (c_X12_barsGive l D K hM f A hT a0 ha0 hk0 x_11 x2 x3 hbs_12 hq_13 hq_15) m_X12_barsGive wm_X12_181 (zrecv hs hP ha0 (zF_11 hk0) rfl) ⟨by decide, by decide⟩ hl.1 (Nat.le_of_ble_eq_true rfl) dX12_give_39) (fun x_16 p_16 => ?_)
        have pp_16 : (0 ≤ x_16.toInt → (A 40 (x_11.toInt + x2.toInt + 22).toNat).toInt < 15 ∧ (A 40 (x_11.toInt + 5).toNat).toInt = 1 ∧ (A 40 (x_11.toInt + x3.toInt + 110).toNat).toInt = 0) := p_16
        refine lv_istore (lv' := [(5, .int x_16), (4, .int x_11), (0, .ref a0), (1, .int x1), (2, .int x2), (3, .int x3)]) hx hb dX12_give_42 hl (by decide) rfl (fun ls hl => ?_)
        refine lv_iload hx hb dX12_give_44 (lv_at hl 0 rfl) ?_
        refine bz_ge (tgt := 52) hx hb rfl dX12_give_46 (by decide) (fun c_17 => ?_) (fun c_17 => ?_)
        · skip
          refine lv_aload_n hx hb dX12_give_52 rfl (lv_at hl 2 rfl) ?_
          refine lv_iload_n hx hb dX12_give_53 rfl (lv_at hl 3 rfl) ?_
          have hTo := hT
          have hq_18 : 0 ≤ x1.toInt ∧ x1.toInt ≤ 3 := by (first | assumption | omega | (intros; omega))
          refine mcV (zrV (As := [.int x1]) (b := a0) (rest := []) C hs hP hS (c_X12_keep l D K hM f A hT a0 ha0 hk0 x1 hq_18) m_X12_keep wm_X12_165 (zrecv hs hP ha0 (zF_11 hk0) rfl) ⟨by decide, by decide⟩ hl.1 (Nat.le_of_ble_eq_true rfl) dX12_give_54) hS (fun f_19 A_19 H locs p_19 hP hS => ?_)
          obtain ⟨hT, hA_19, hF_19, hC_19, pp_19⟩ := p_19
          have pp_19 : (f_19 23).toInt = -1 ∧ (∀ n9 : Int, aR (A 40) n9 → aR (A_19 40) n9) := pp_19
          have pp0_19 := zHid.mk pp_19
          have FA := frA FA hA_19 (by decide)
          have FF := frF FF hF_19 (by decide)
          have aRc := pp0_19.2 _ aRc
          refine lv_aload_n hx hb dX12_give_57 rfl (lv_at hl 2 rfl) ?_
          refine lv_iload hx hb dX12_give_58 (lv_at hl 1 rfl) ?_
          refine lv_iconst (v := 1) hx hb dX12_give_60 (by decide) ?_
          refine lv_iload_n hx hb dX12_give_61 rfl (lv_at hl 4 rfl) ?_
          refine lv_iload_n hx hb dX12_give_62 rfl (lv_at hl 5 rfl) ?_
          refine lv_iconst (v := 0) hx hb dX12_give_63 (by decide) ?_
          have hTo := hT
          have es_21 : A_19 40 (x_11.toInt + 44).toNat = A 40 (x_11.toInt + 44).toNat := by rw [hC_19.ar (by omega) (lo := 0) (hi := 6449) (by decide) (x_11.toInt + 44) (by decide) (by omega) (by omega)]
          have hq_20 : (A_19 40 (x_11.toInt + 44).toNat).toInt ≤ 1000000000 := by (have h9 := (aRc x1.toInt (by omega) (by omega)).2.2; rw [← hbo_14] at h9; omega)
          refine mcV (zrV (As := [.int x_11, .int 1, .int x2, .int x3, .int 0]) (b := a0) (rest := []) C hs hP hS (c_X12_tell l D K hM f_19 A_19 hT a0 ha0 hk0 x_11 1 x2 x3 0 hbs_12 hq_20) m_X12_tell wm_X12_171 (zrecv hs hP ha0 (zF_11 hk0) rfl) ⟨by decide, by decide⟩ hl.1 (Nat.le_of_ble_eq_true rfl) dX12_give_64) hS (fun f_22 A_22 H locs p_22 hP hS => ?_)
          obtain ⟨hT, hA_22, hF_22, hC_22, pp_22⟩ := p_22
          have pp_22 : (A_22 40 (x_11.toInt + 44).toNat).toInt = (A_19 40 (x_11.toInt + 44).toNat).toInt + 1 ∧ (((1 : Int32).toInt ≠ 0 → 0 ≤ x2.toInt ∧ x2.toInt ≤ 3) → ((1 : Int32).toInt = 1 → 0 ≤ x3.toInt ∧ x3.toInt < (A_19 40 (x_11.toInt + 1).toNat).toInt) → ((1 : Int32).toInt = 6 → x2.toInt ≤ 1) → tO (A_19 40) x_11.toInt → tO (A_22 40) x_11.toInt) := pp_22
          have pp0_22 := zHid.mk pp_22
          try simp only [ti_0, ti_1] at pp_22
          have hff_22 : f_19 = f_22 := funext (fun k9 => (hF_22 k9 List.not_mem_nil).symm)
          subst hff_22
          have FA := frA FA hA_22 (by decide)
          have FF := frF FF hF_22 (by decide)
          have es_23 : A_19 40 (x_11.toInt + 1).toNat = A 40 (x_11.toInt + 1).toNat := by rw [hC_19.ar (by omega) (lo := 0) (hi := 6449) (by decide) (x_11.toInt + 1) (by decide) (by omega) (by omega)]
          have aRc := aR.tl (t := x1.toInt) aRc hTo (by omega) (fC.mv hC_22 (by omega)) (by rw [← hbo_14]; exact pp0_22.1) (by rw [← hbo_14]; exact pp0_22.2 (fun _ => by omega) (fun _ => by rw [es_23, hbo_14]; omega) (fun h9 => absurd h9 (by rw [ti_1]; decide)))
          refine lv_aload_n hx hb dX12_give_67 rfl (lv_at hl 2 rfl) ?_
          refine lv_iload hx hb dX12_give_68 (lv_at hl 1 rfl) ?_
          refine lv_iload_n hx hb dX12_give_70 rfl (lv_at hl 4 rfl) ?_
          refine lv_iload_n hx hb dX12_give_71 rfl (lv_at hl 5 rfl) ?_
          have hTo := hT
          have hq_24 : 0 ≤ x2.toInt ∧ x2.toInt ≤ 3 := by ((have h8 := pp_16 (by omega); omega))
          have es_26 : A_22 40 (x_11.toInt + 1).toNat = A 40 (x_11.toInt + 1).toNat := by rw [hC_22.ar (by omega) (lo := 1) (hi := 1) (by decide) (x_11.toInt + 1) (by decide) (by omega) (by omega), hC_19.ar (by omega) (lo := 0) (hi := 6449) (by decide) (x_11.toInt + 1) (by decide) (by omega) (by omega)]
          have hq_25 : 0 ≤ x3.toInt ∧ x3.toInt ≤ 59 ∧ x3.toInt < (A_22 40 (x_11.toInt + 1).toNat).toInt := by rw [es_26] <;> ((have h8 := pp_16 (by omega); rw [hbo_14]; omega))
          have es_28 : A_22 40 (x_11.toInt + x3.toInt + 110).toNat = A 40 (x_11.toInt + x3.toInt + 110).toNat := by rw [hC_22.ar (by omega) (lo := 110) (hi := 169) (by decide) (x_11.toInt + x3.toInt + 110) (by decide) (by omega) (by omega), hC_19.ar (by omega) (lo := 0) (hi := 6449) (by decide) (x_11.toInt + x3.toInt + 110) (by decide) (by omega) (by omega)]
          have hq_27 : (A_22 40 (x_11.toInt + x3.toInt + 110).toNat).toInt = 0 := by rw [es_28] <;> ((have h8 := pp_16 (by omega); omega))
          have es_30 : A_22 40 (x_11.toInt + x2.toInt + 22).toNat = A 40 (x_11.toInt + x2.toInt + 22).toNat := by rw [hC_22.ar (by omega) (lo := 22) (hi := 25) (by decide) (x_11.toInt + x2.toInt + 22) (by decide) (by omega) (by omega), hC_19.ar (by omega) (lo := 0) (hi := 6449) (by decide) (x_11.toInt + x2.toInt + 22) (by decide) (by omega) (by omega)]
          have hq_29 : (A_22 40 (x_11.toInt + x2.toInt + 22).toNat).toInt ≤ 59 := by rw [es_30] <;> ((have h8 := pp_16 (by omega); omega))
          have hq_31 : rowN (A_22 40) x_11.toInt := by rw [hbo_14]; exact (aRc x1.toInt (by omega) (by omega)).1
          refine mcV (zrV (As := [.int x_11, .int x2, .int x3]) (b := a0) (rest := []) C hs hP hS (c_X12_doGive l D K hM f_19 A_22 hT a0 ha0 hk0 x_11 x2 x3 hbs_12 hq_24 hq_25 hq_27 hq_29 hq_31) m_X12_doGive wm_X12_184 (zrecv hs hP ha0 (zF_11 hk0) rfl) ⟨by decide, by decide⟩ hl.1 (Nat.le_of_ble_eq_true rfl) dX12_give_72) hS (fun f_32 A_32 H locs p_32 hP hS => ?_)
          obtain ⟨hT, hA_32, hF_32, hC_32, pp_32⟩ := p_32
          have pp_32 : rowN (A_32 40) x_11.toInt := pp_32
          have pp0_32 := zHid.mk pp_32
          have hff_32 : f_19 = f_32 := funext (fun k9 => (hF_32 k9 List.not_mem_nil).symm)
          subst hff_32
          have FA := frA FA hA_32 (by decide)
          have FF := frF FF hF_32 (by decide)
          have aRc := aR.do (t := x1.toInt) aRc hTo (by omega) (fC.mv hC_32 (by omega)) (by decide) (by rw [← hbo_14]; exact pp0_32) (by decide) (by decide) (by decide)
          refine lv_aload_n hx hb dX12_give_75 rfl (lv_at hl 2 rfl) ?_
          refine mg_0 C hs hP ha0 hk0 wf_X12_8 dX12_give_76 ?_
          have hf_33 := hO.r (j := 0) ha0 hk0 (rfl : zX 11 0 = some (40, 47730))
          refine lv_iload hx hb dX12_give_79 (lv_at hl 1 rfl) ?_
          refine lv_bipush (v := 22) hx hb dX12_give_81 (by decide) ?_
          refine lv_iadd hx hb dX12_give_83 ?_
          refine lv_topi (fun x_34 ex_34 => ?_)
          refine lv_iload_n hx hb dX12_give_84 rfl (lv_at hl 4 rfl) ?_
          refine lv_iadd hx hb dX12_give_85 ?_
          refine lv_topi (fun x_35 ex_35 => ?_)
          have hi_hr_36 : zEq x_35.toInt (x_11.toInt + x2.toInt + 22) := by
            obtain ⟨f_34, l_34, u_34⟩ := z_add ex_34 rfl ti_22
            try replace f_34 : x_34.toInt = x_11.toInt + 22 := by omega
            clear l_34 u_34
            obtain ⟨f_35, l_35, u_35⟩ := z_add ex_35 rfl rfl
            try replace f_35 : x_35.toInt = x_34.toInt + x2.toInt := by omega
            clear l_35 u_35
            show x_35.toInt = (x_11.toInt + x2.toInt + 22)
            omega
          have hl_hr_36 : 22 ≤ x2.toInt + 22 ∧ x2.toInt + 22 ≤ 25 := by
            omega
          have hid_hr_36 : (x_11.toInt + x2.toInt + 22) = x_11.toInt + (x2.toInt + 22) := by simp only [Int.add_assoc, Int.add_sub_assoc]
          have hr_36 := z_cell (lo := 22) (hi := 25) hbs_12 hi_hr_36 hid_hr_36 hl_hr_36 (by decide)
          replace hid_hr_36 : zEq (x_11.toInt + x2.toInt + 22) (x_11.toInt + (x2.toInt + 22)) := hid_hr_36
          have hin_37 : vp_in x_35 (zn K (zr K a0 0)) := vp_in_iff.mpr (by rw [(hf_33.2.2 (by decide))]; exact hr_36.in)
          refine mld_40 C hs hP hf_33.1 hf_33.2.1 hin_37 dX12_give_86 ?_
          have ep_38 : x_35.toNatClampNeg = (x_11.toInt + x2.toInt + 22).toNat := z_posE hi_hr_36
          rw [ep_38]
          have tv_39 := rv_22 hT hr_36
          rw [ep_38] at tv_39
          clear ep_38
          have ev_40 : f_19 11 = f 11 := by rw [hF_19 11 (by decide)]
          have ev_41 : f_19 9 = f 9 := by rw [hF_19 9 (by decide)]
          exact maI hQ hx hb hr hlk hP hS ⟨hT, FA, FF, ⟨(aRc.mono (by omega)), (cOk.m1 (by exact pp0_19.1)), by rw [ev_40] <;> omega, by rw [ev_41] <;> omega⟩⟩ dX12_give_87
        · skip
          refine lv_iload hx hb dX12_give_49 (lv_at hl 0 rfl) ?_
          exact maI hQ hx hb hr hlk hP hS ⟨hT, FA, FF, ⟨(aRc.mono (by omega)), hp0.2.1, by omega, by omega⟩⟩ dX12_give_51
      · skip
        clear pp_9
        refine lv_bipush (v := (-2)) hx hb dX12_give_24 (by decide) ?_
        exact maI hQ hx hb hr hlk hP hS ⟨hT, FA, FF, ⟨(aRc.mono (by omega)), hp0.2.1, by omega, by omega⟩⟩ dX12_give_26
set_option maxHeartbeats 4000000 in
set_option maxRecDepth 100000 in
theorem c_X12_bid (l : Launch) (D : va_G) (K : zK) (hM : mK K) (f : Nat → Int32) (A : Nat → Nat → Int32) (hT : mT f A) (N : Int) (a0 : Nat) (ha0 : a0 ∈ zl K) (hk0 : zk K a0 = 11) (x1 : Int32) (x2 : Int32) (x3 : Int32) (x4 : Int32) (hp0 : okk N f A) (hp1 : 0 ≤ N ∧ N ≤ 600) : Met l yX12_bid (zc yX12_bid cX12_bid 6 (some .int)) (rmd 2) (va_Pc [.ref a0, .int x1, .int x2, .int x3, .int x4] (zB D K (mV K f A))) (mQi D K (fun r f' A' => mT f' A' ∧ (∀ k, k ∉ ([40, 42] : List Nat) → A' k = A k) ∧ (∀ k, k ∉ ([23] : List Nat) → f' k = f k) ∧ okk (N + 1) f' A')) 0 0 (zA K) := by
  refine zin (by decide) (Nat.le_of_ble_eq_true rfl) ?_
  intro p e s m args below meth c ls Q hQ C hr hlk hP hs hl
  have C : CallFix p m c cX12_bid 6 s args zw RX12 := C
  obtain ⟨hx, hb, hml, hown, hts⟩ := id C
  have hO := hM.1
  have hS : va_S (zA K) s.heap s.heap [] := va_S.rf
  have FA : ∀ k, k ∉ ([40, 42] : List Nat) → A k = A k := fun _ _ => rfl
  have FF : ∀ k, k ∉ ([23] : List Nat) → f k = f k := fun _ _ => rfl
  have hl : lv_has ls 6 [(0, .ref a0), (1, .int x1), (2, .int x2), (3, .int x3), (4, .int x4)] := hl
  have aRc := hp0.1
  have hbud := hp0.2.2
  refine lv_aload_n hx hb dX12_bid_0 rfl (lv_at hl 0 rfl) ?_
  refine lv_iload_n hx hb dX12_bid_1 rfl (lv_at hl 1 rfl) ?_
  have hTo := hT
  refine zcS (zrV (As := [.int x1]) (b := a0) (rest := []) C hs hP hS (c_X12_isTable l D K hM f A hT a0 ha0 hk0 x1) m_X12_isTable wm_X12_107 (zrecv hs hP ha0 (zF_11 hk0) rfl) ⟨by decide, by decide⟩ hl.1 (Nat.le_of_ble_eq_true rfl) dX12_bid_2) (fun x_1 p_1 => ?_)
  have pp_1 : (x_1.toInt ≠ 0 → 0 ≤ x1.toInt ∧ x1.toInt ≤ 3) := p_1.2
  have g_2 := z_rng x1
  refine bz_eq (tgt := 15) hx hb rfl dX12_bid_5 (by decide) (fun c_3 => ?_) (fun c_3 => ?_)
  · skip
    clear pp_1
    refine lv_bipush (v := (-2)) hx hb dX12_bid_15 (by decide) ?_
    exact maI hQ hx hb hr hlk hP hS ⟨hT, FA, FF, ⟨(aRc.mono (by omega)), hp0.2.1, by omega, by omega⟩⟩ dX12_bid_17
  · skip
    replace pp_1 := pp_1 c_3
    refine lv_iload_n hx hb dX12_bid_8 rfl (lv_at hl 2 rfl) ?_
    have hTo := hT
    refine zcS (zrS (As := [.int x2]) (rest := []) C hs hP hS (c_X12_isSeat l D K hM f A hT x2) m_X12_isSeat wm_X12_110 ⟨by decide, by decide⟩ hl.1 (Nat.le_of_ble_eq_true rfl) dX12_bid_9) (fun x_4 p_4 => ?_)
    have pp_4 : (x_4.toInt ≠ 0 → 0 ≤ x2.toInt ∧ x2.toInt ≤ 3) ∧ (x_4.toInt = 0 → x2.toInt < 0 ∨ 3 < x2.toInt) := p_4.2
    have g_5 := z_rng x2
    refine bz_ne (tgt := 18) hx hb rfl dX12_bid_12 (by decide) (fun c_6 => ?_) (fun c_6 => ?_)
    · skip
      replace pp_4 := pp_4.1 c_6
      refine lv_sipush (v := 1290) hx hb dX12_bid_18 (by decide) ?_
      refine lv_iload_n hx hb dX12_bid_21 rfl (lv_at hl 1 rfl) ?_
      refine lv_imul hx hb dX12_bid_22 ?_
      refine lv_topi (fun x_7 ex_7 => ?_)
      refine lv_istore (lv' := [(5, .int x_7), (0, .ref a0), (1, .int x1), (2, .int x2), (3, .int x3), (4, .int x4)]) hx hb dX12_bid_23 hl (by decide) rfl (fun ls hl => ?_)
      refine lv_iload_n hx hb dX12_bid_25 rfl (lv_at hl 4 rfl) ?_
      refine lv_iconst (v := 1) hx hb dX12_bid_26 (by decide) ?_
      refine lv_aload_n hx hb dX12_bid_27 rfl (lv_at hl 1 rfl) ?_
      refine lv_iload hx hb dX12_bid_28 (lv_at hl 0 rfl) ?_
      have hTo := hT
      obtain ⟨f_7, l_7, u_7⟩ := z_mul ex_7 ti_1290 rfl
      try replace f_7 : x_7.toInt = 1290 * x1.toInt := by omega
      clear l_7 u_7
      have hbs_8 : zRow x_7.toInt := zRow.of (t := x1.toInt) (by omega) (by omega)
      have hbl_hbs_8 := hbs_8.lin
      refine zcS (zrV (As := [.int x_7]) (b := a0) (rest := [.int 1, .int x3]) C hs hP hS (c_X12_sizeOf l D K hM f A hT a0 ha0 hk0 x_7 hbs_8) m_X12_sizeOf wm_X12_155 (zrecv hs hP ha0 (zF_11 hk0) rfl) ⟨by decide, by decide⟩ hl.1 (Nat.le_of_ble_eq_true rfl) dX12_bid_30) (fun x_9 p_9 => ?_)
      have pp_9 : 0 ≤ x_9.toInt ∧ x_9.toInt ≤ 15 := p_9
      have hTo := hT
      refine zcS (zrS (As := [.int x3, .int 1, .int x_9]) (rest := []) C hs hP hS (c_X12_in l D K hM f A hT x3 1 x_9) m_X12_in wm_X12_91 ⟨by decide, by decide⟩ hl.1 (Nat.le_of_ble_eq_true rfl) dX12_bid_33) (fun x_10 p_10 => ?_)
      have pp_10 : (x_10.toInt ≠ 0 → (1 : Int32).toInt ≤ x3.toInt ∧ x3.toInt ≤ x_9.toInt) ∧ (x_10.toInt = 0 → x3.toInt < (1 : Int32).toInt ∨ x_9.toInt < x3.toInt) := p_10.2
      try simp only [ti_1] at pp_10
      have g_11 := z_rng x3
      have g_12 := z_rng x_9
      refine bz_eq (tgt := 49) hx hb rfl dX12_bid_36 (by decide) (fun c_13 => ?_) (fun c_13 => ?_)
      · skip
        replace pp_10 := pp_10.2 c_13
        refine lv_bipush (v := (-3)) hx hb dX12_bid_49 (by decide) ?_
        exact maI hQ hx hb hr hlk hP hS ⟨hT, FA, FF, ⟨(aRc.mono (by omega)), hp0.2.1, by omega, by omega⟩⟩ dX12_bid_51
      · skip
        replace pp_10 := pp_10.1 c_13
        refine lv_iload hx hb dX12_bid_39 (lv_at hl 5 rfl) ?_
        refine lv_iconst (v := 0) hx hb dX12_bid_41 (by decide) ?_
        refine lv_iconst (v := 3) hx hb dX12_bid_42 (by decide) ?_
        have hTo := hT
        refine zcS (zrS (As := [.int x4, .int 0, .int 3]) (rest := []) C hs hP hS (c_X12_in l D K hM f A hT x4 0 3) m_X12_in wm_X12_91 ⟨by decide, by decide⟩ hl.1 (Nat.le_of_ble_eq_true rfl) dX12_bid_43) (fun x_14 p_14 => ?_)
        have pp_14 : (x_14.toInt ≠ 0 → (0 : Int32).toInt ≤ x4.toInt ∧ x4.toInt ≤ (3 : Int32).toInt) ∧ (x_14.toInt = 0 → x4.toInt < (0 : Int32).toInt ∨ (3 : Int32).toInt < x4.toInt) := p_14.2
        try simp only [ti_0, ti_3] at pp_14
        have g_15 := z_rng x4
        refine bz_ne (tgt := 52) hx hb rfl dX12_bid_46 (by decide) (fun c_16 => ?_) (fun c_16 => ?_)
        · skip
          replace pp_14 := pp_14.1 c_16
          refine lv_aload_n hx hb dX12_bid_52 rfl (lv_at hl 1 rfl) ?_
          refine lv_iload hx hb dX12_bid_53 (lv_at hl 0 rfl) ?_
          refine lv_iload_n hx hb dX12_bid_55 rfl (lv_at hl 3 rfl) ?_
          refine lv_iload_n hx hb dX12_bid_56 rfl (lv_at hl 4 rfl) ?_
          refine lv_iload hx hb dX12_bid_57 (lv_at hl 5 rfl) ?_
          have hTo := hT
          have hbo_18 : x_7.toInt = 1290 * x1.toInt := by omega
          have hq_17 : 0 ≤ x2.toInt ∧ x2.toInt ≤ 3 := by (first | assumption | omega | (intros; omega))
          refine zcS (zrV (As := [.int x_7, .int x2, .int x3, .int x4]) (b := a0) (rest := []) C hs hP hS (c_X12_canBid l D K hM f A hT a0 ha0 hk0 x_7 x2 x3 x4 hbs_8 hq_17) m_X12_canBid wm_X12_187 (zrecv hs hP ha0 (zF_11 hk0) rfl) ⟨by decide, by decide⟩ hl.1 (Nat.le_of_ble_eq_true rfl) dX12_bid_59) (fun x_19 p_19 => ?_)
          refine bz_ne (tgt := 68) hx hb rfl dX12_bid_62 (by decide) (fun c_20 => ?_) (fun c_20 => ?_)
          · skip
            refine lv_aload_n hx hb dX12_bid_68 rfl (lv_at hl 1 rfl) ?_
            refine lv_iload_n hx hb dX12_bid_69 rfl (lv_at hl 2 rfl) ?_
            have hTo := hT
            have hq_21 : 0 ≤ x1.toInt ∧ x1.toInt ≤ 3 := by (first | assumption | omega | (intros; omega))
            refine mcV (zrV (As := [.int x1]) (b := a0) (rest := []) C hs hP hS (c_X12_keep l D K hM f A hT a0 ha0 hk0 x1 hq_21) m_X12_keep wm_X12_165 (zrecv hs hP ha0 (zF_11 hk0) rfl) ⟨by decide, by decide⟩ hl.1 (Nat.le_of_ble_eq_true rfl) dX12_bid_70) hS (fun f_22 A_22 H locs p_22 hP hS => ?_)
            obtain ⟨hT, hA_22, hF_22, hC_22, pp_22⟩ := p_22
            have pp_22 : (f_22 23).toInt = -1 ∧ (∀ n9 : Int, aR (A 40) n9 → aR (A_22 40) n9) := pp_22
            have pp0_22 := zHid.mk pp_22
            have FA := frA FA hA_22 (by decide)
            have FF := frF FF hF_22 (by decide)
            have aRc := pp0_22.2 _ aRc
            refine lv_aload_n hx hb dX12_bid_73 rfl (lv_at hl 1 rfl) ?_
            refine lv_iload hx hb dX12_bid_74 (lv_at hl 0 rfl) ?_
            refine lv_iconst (v := 2) hx hb dX12_bid_76 (by decide) ?_
            refine lv_iload_n hx hb dX12_bid_77 rfl (lv_at hl 3 rfl) ?_
            refine lv_iload_n hx hb dX12_bid_78 rfl (lv_at hl 4 rfl) ?_
            refine lv_iload hx hb dX12_bid_79 (lv_at hl 5 rfl) ?_
            have hTo := hT
            have es_24 : A_22 40 (x_7.toInt + 44).toNat = A 40 (x_7.toInt + 44).toNat := by rw [hC_22.ar (by omega) (lo := 0) (hi := 6449) (by decide) (x_7.toInt + 44) (by decide) (by omega) (by omega)]
            have hq_23 : (A_22 40 (x_7.toInt + 44).toNat).toInt ≤ 1000000000 := by (have h9 := (aRc x1.toInt (by omega) (by omega)).2.2; rw [← hbo_18] at h9; omega)
            refine mcV (zrV (As := [.int x_7, .int 2, .int x2, .int x3, .int x4]) (b := a0) (rest := []) C hs hP hS (c_X12_tell l D K hM f_22 A_22 hT a0 ha0 hk0 x_7 2 x2 x3 x4 hbs_8 hq_23) m_X12_tell wm_X12_171 (zrecv hs hP ha0 (zF_11 hk0) rfl) ⟨by decide, by decide⟩ hl.1 (Nat.le_of_ble_eq_true rfl) dX12_bid_81) hS (fun f_25 A_25 H locs p_25 hP hS => ?_)
            obtain ⟨hT, hA_25, hF_25, hC_25, pp_25⟩ := p_25
            have pp_25 : (A_25 40 (x_7.toInt + 44).toNat).toInt = (A_22 40 (x_7.toInt + 44).toNat).toInt + 1 ∧ (((2 : Int32).toInt ≠ 0 → 0 ≤ x2.toInt ∧ x2.toInt ≤ 3) → ((2 : Int32).toInt = 1 → 0 ≤ x3.toInt ∧ x3.toInt < (A_22 40 (x_7.toInt + 1).toNat).toInt) → ((2 : Int32).toInt = 6 → x2.toInt ≤ 1) → tO (A_22 40) x_7.toInt → tO (A_25 40) x_7.toInt) := pp_25
            have pp0_25 := zHid.mk pp_25
            try simp only [ti_2] at pp_25
            have hff_25 : f_22 = f_25 := funext (fun k9 => (hF_25 k9 List.not_mem_nil).symm)
            subst hff_25
            have FA := frA FA hA_25 (by decide)
            have FF := frF FF hF_25 (by decide)
            have aRc := aR.tl (t := x1.toInt) aRc hTo (by omega) (fC.mv hC_25 (by omega)) (by rw [← hbo_18]; exact pp0_25.1) (by rw [← hbo_18]; exact pp0_25.2 (fun _ => by omega) (fun h9 => absurd h9 (by rw [ti_2]; decide)) (fun h9 => absurd h9 (by rw [ti_2]; decide)))
            refine lv_aload_n hx hb dX12_bid_84 rfl (lv_at hl 1 rfl) ?_
            refine lv_iload hx hb dX12_bid_85 (lv_at hl 0 rfl) ?_
            refine lv_iload_n hx hb dX12_bid_87 rfl (lv_at hl 3 rfl) ?_
            refine lv_iload_n hx hb dX12_bid_88 rfl (lv_at hl 4 rfl) ?_
            refine lv_iload hx hb dX12_bid_89 (lv_at hl 5 rfl) ?_
            have hTo := hT
            refine mcV (zrV (As := [.int x_7, .int x2, .int x3, .int x4]) (b := a0) (rest := []) C hs hP hS (c_X12_doBid l D K hM f_22 A_25 hT a0 ha0 hk0 x_7 x2 x3 x4 hbs_8) m_X12_doBid wm_X12_191 (zrecv hs hP ha0 (zF_11 hk0) rfl) ⟨by decide, by decide⟩ hl.1 (Nat.le_of_ble_eq_true rfl) dX12_bid_91) hS (fun f_26 A_26 H locs p_26 hP hS => ?_)
            obtain ⟨hT, hA_26, hF_26, hC_26⟩ := p_26
            have hff_26 : f_22 = f_26 := funext (fun k9 => (hF_26 k9 List.not_mem_nil).symm)
            subst hff_26
            have FA := frA FA hA_26 (by decide)
            have FF := frF FF hF_26 (by decide)
            have aRc := aR.fw (t := x1.toInt) aRc hTo (by omega) (fC.mv hC_26 (by omega)) (by decide) (wz_of (fC.mv hC_26 (by omega)) (by omega) (by decide)) (by decide) (by decide) (by decide) (by decide) (by decide) (by decide) (by decide) (by decide) (by decide)
            refine lv_iconst (v := 1) hx hb dX12_bid_94 (by decide) ?_
            have ev_27 : f_22 11 = f 11 := by rw [hF_22 11 (by decide)]
            have ev_28 : f_22 9 = f 9 := by rw [hF_22 9 (by decide)]
            exact maI hQ hx hb hr hlk hP hS ⟨hT, FA, FF, ⟨(aRc.mono (by omega)), (cOk.m1 (by exact pp0_22.1)), by rw [ev_27] <;> omega, by rw [ev_28] <;> omega⟩⟩ dX12_bid_95
          · skip
            refine lv_bipush (v := (-4)) hx hb dX12_bid_65 (by decide) ?_
            exact maI hQ hx hb hr hlk hP hS ⟨hT, FA, FF, ⟨(aRc.mono (by omega)), hp0.2.1, by omega, by omega⟩⟩ dX12_bid_67
        · skip
          replace pp_14 := pp_14.2 c_16
          refine lv_bipush (v := (-3)) hx hb dX12_bid_49 (by decide) ?_
          exact maI hQ hx hb hr hlk hP hS ⟨hT, FA, FF, ⟨(aRc.mono (by omega)), hp0.2.1, by omega, by omega⟩⟩ dX12_bid_51
    · skip
      replace pp_4 := pp_4.2 c_6
      refine lv_bipush (v := (-2)) hx hb dX12_bid_15 (by decide) ?_
      exact maI hQ hx hb hr hlk hP hS ⟨hT, FA, FF, ⟨(aRc.mono (by omega)), hp0.2.1, by omega, by omega⟩⟩ dX12_bid_17
set_option maxHeartbeats 4000000 in
set_option maxRecDepth 100000 in
theorem c_X12_doubled (l : Launch) (D : va_G) (K : zK) (hM : mK K) (f : Nat → Int32) (A : Nat → Nat → Int32) (hT : mT f A) (N : Int) (a0 : Nat) (ha0 : a0 ∈ zl K) (hk0 : zk K a0 = 11) (x1 : Int32) (x2 : Int32) (hp0 : okk N f A) (hp1 : 0 ≤ N ∧ N ≤ 600) : Met l yX12_doubled (zc yX12_doubled cX12_doubled 4 (some .int)) (rmd 2) (va_Pc [.ref a0, .int x1, .int x2] (zB D K (mV K f A))) (mQi D K (fun r f' A' => mT f' A' ∧ (∀ k, k ∉ ([40, 42] : List Nat) → A' k = A k) ∧ (∀ k, k ∉ ([23] : List Nat) → f' k = f k) ∧ okk (N + 1) f' A')) 0 0 (zA K) := by
  refine zin (by decide) (Nat.le_of_ble_eq_true rfl) ?_
  intro p e s m args below meth c ls Q hQ C hr hlk hP hs hl
  have C : CallFix p m c cX12_doubled 4 s args zw RX12 := C
  obtain ⟨hx, hb, hml, hown, hts⟩ := id C
  have hO := hM.1
  have hS : va_S (zA K) s.heap s.heap [] := va_S.rf
  have FA : ∀ k, k ∉ ([40, 42] : List Nat) → A k = A k := fun _ _ => rfl
  have FF : ∀ k, k ∉ ([23] : List Nat) → f k = f k := fun _ _ => rfl
  have hl : lv_has ls 4 [(0, .ref a0), (1, .int x1), (2, .int x2)] := hl
  have aRc := hp0.1
  have hbud := hp0.2.2
  refine lv_aload_n hx hb dX12_doubled_0 rfl (lv_at hl 0 rfl) ?_
  refine lv_iload_n hx hb dX12_doubled_1 rfl (lv_at hl 1 rfl) ?_
  have hTo := hT
  refine zcS (zrV (As := [.int x1]) (b := a0) (rest := []) C hs hP hS (c_X12_isTable l D K hM f A hT a0 ha0 hk0 x1) m_X12_isTable wm_X12_107 (zrecv hs hP ha0 (zF_11 hk0) rfl) ⟨by decide, by decide⟩ hl.1 (Nat.le_of_ble_eq_true rfl) dX12_doubled_2) (fun x_1 p_1 => ?_)
  have pp_1 : (x_1.toInt ≠ 0 → 0 ≤ x1.toInt ∧ x1.toInt ≤ 3) := p_1.2
  have g_2 := z_rng x1
  refine bz_eq (tgt := 15) hx hb rfl dX12_doubled_5 (by decide) (fun c_3 => ?_) (fun c_3 => ?_)
  · skip
    clear pp_1
    refine lv_bipush (v := (-2)) hx hb dX12_doubled_15 (by decide) ?_
    exact maI hQ hx hb hr hlk hP hS ⟨hT, FA, FF, ⟨(aRc.mono (by omega)), hp0.2.1, by omega, by omega⟩⟩ dX12_doubled_17
  · skip
    replace pp_1 := pp_1 c_3
    refine lv_iload_n hx hb dX12_doubled_8 rfl (lv_at hl 2 rfl) ?_
    have hTo := hT
    refine zcS (zrS (As := [.int x2]) (rest := []) C hs hP hS (c_X12_isSeat l D K hM f A hT x2) m_X12_isSeat wm_X12_110 ⟨by decide, by decide⟩ hl.1 (Nat.le_of_ble_eq_true rfl) dX12_doubled_9) (fun x_4 p_4 => ?_)
    have pp_4 : (x_4.toInt ≠ 0 → 0 ≤ x2.toInt ∧ x2.toInt ≤ 3) ∧ (x_4.toInt = 0 → x2.toInt < 0 ∨ 3 < x2.toInt) := p_4.2
    have g_5 := z_rng x2
    refine bz_ne (tgt := 18) hx hb rfl dX12_doubled_12 (by decide) (fun c_6 => ?_) (fun c_6 => ?_)
    · skip
      replace pp_4 := pp_4.1 c_6
      refine lv_sipush (v := 1290) hx hb dX12_doubled_18 (by decide) ?_
      refine lv_iload_n hx hb dX12_doubled_21 rfl (lv_at hl 1 rfl) ?_
      refine lv_imul hx hb dX12_doubled_22 ?_
      refine lv_topi (fun x_7 ex_7 => ?_)
      refine lv_istore_n (lv' := [(3, .int x_7), (0, .ref a0), (1, .int x1), (2, .int x2)]) hx hb dX12_doubled_23 rfl hl (by decide) rfl (fun ls hl => ?_)
      refine lv_aload_n hx hb dX12_doubled_24 rfl (lv_at hl 1 rfl) ?_
      refine lv_iload_n hx hb dX12_doubled_25 rfl (lv_at hl 0 rfl) ?_
      refine lv_iload_n hx hb dX12_doubled_26 rfl (lv_at hl 3 rfl) ?_
      have hTo := hT
      obtain ⟨f_7, l_7, u_7⟩ := z_mul ex_7 ti_1290 rfl
      try replace f_7 : x_7.toInt = 1290 * x1.toInt := by omega
      clear l_7 u_7
      have hbs_8 : zRow x_7.toInt := zRow.of (t := x1.toInt) (by omega) (by omega)
      have hbl_hbs_8 := hbs_8.lin
      have hbo_10 : x_7.toInt = 1290 * x1.toInt := by omega
      have hq_9 : 0 ≤ x2.toInt ∧ x2.toInt ≤ 3 := by (first | assumption | omega | (intros; omega))
      refine zcS (zrV (As := [.int x_7, .int x2]) (b := a0) (rest := []) C hs hP hS (c_X12_canDouble l D K hM f A hT a0 ha0 hk0 x_7 x2 hbs_8 hq_9) m_X12_canDouble wm_X12_195 (zrecv hs hP ha0 (zF_11 hk0) rfl) ⟨by decide, by decide⟩ hl.1 (Nat.le_of_ble_eq_true rfl) dX12_doubled_27) (fun x_11 p_11 => ?_)
      refine bz_ne (tgt := 36) hx hb rfl dX12_doubled_30 (by decide) (fun c_12 => ?_) (fun c_12 => ?_)
      · skip
        refine lv_aload_n hx hb dX12_doubled_36 rfl (lv_at hl 1 rfl) ?_
        refine lv_iload_n hx hb dX12_doubled_37 rfl (lv_at hl 2 rfl) ?_
        have hTo := hT
        have hq_13 : 0 ≤ x1.toInt ∧ x1.toInt ≤ 3 := by (first | assumption | omega | (intros; omega))
        refine mcV (zrV (As := [.int x1]) (b := a0) (rest := []) C hs hP hS (c_X12_keep l D K hM f A hT a0 ha0 hk0 x1 hq_13) m_X12_keep wm_X12_165 (zrecv hs hP ha0 (zF_11 hk0) rfl) ⟨by decide, by decide⟩ hl.1 (Nat.le_of_ble_eq_true rfl) dX12_doubled_38) hS (fun f_14 A_14 H locs p_14 hP hS => ?_)
        obtain ⟨hT, hA_14, hF_14, hC_14, pp_14⟩ := p_14
        have pp_14 : (f_14 23).toInt = -1 ∧ (∀ n9 : Int, aR (A 40) n9 → aR (A_14 40) n9) := pp_14
        have pp0_14 := zHid.mk pp_14
        have FA := frA FA hA_14 (by decide)
        have FF := frF FF hF_14 (by decide)
        have aRc := pp0_14.2 _ aRc
        refine lv_aload_n hx hb dX12_doubled_41 rfl (lv_at hl 1 rfl) ?_
        refine lv_iload_n hx hb dX12_doubled_42 rfl (lv_at hl 0 rfl) ?_
        refine lv_iconst (v := 3) hx hb dX12_doubled_43 (by decide) ?_
        refine lv_iload_n hx hb dX12_doubled_44 rfl (lv_at hl 3 rfl) ?_
        refine lv_iconst (v := 0) hx hb dX12_doubled_45 (by decide) ?_
        refine lv_iconst (v := 0) hx hb dX12_doubled_46 (by decide) ?_
        have hTo := hT
        have es_16 : A_14 40 (x_7.toInt + 44).toNat = A 40 (x_7.toInt + 44).toNat := by rw [hC_14.ar (by omega) (lo := 0) (hi := 6449) (by decide) (x_7.toInt + 44) (by decide) (by omega) (by omega)]
        have hq_15 : (A_14 40 (x_7.toInt + 44).toNat).toInt ≤ 1000000000 := by (have h9 := (aRc x1.toInt (by omega) (by omega)).2.2; rw [← hbo_10] at h9; omega)
        refine mcV (zrV (As := [.int x_7, .int 3, .int x2, .int 0, .int 0]) (b := a0) (rest := []) C hs hP hS (c_X12_tell l D K hM f_14 A_14 hT a0 ha0 hk0 x_7 3 x2 0 0 hbs_8 hq_15) m_X12_tell wm_X12_171 (zrecv hs hP ha0 (zF_11 hk0) rfl) ⟨by decide, by decide⟩ hl.1 (Nat.le_of_ble_eq_true rfl) dX12_doubled_47) hS (fun f_17 A_17 H locs p_17 hP hS => ?_)
        obtain ⟨hT, hA_17, hF_17, hC_17, pp_17⟩ := p_17
        have pp_17 : (A_17 40 (x_7.toInt + 44).toNat).toInt = (A_14 40 (x_7.toInt + 44).toNat).toInt + 1 ∧ (((3 : Int32).toInt ≠ 0 → 0 ≤ x2.toInt ∧ x2.toInt ≤ 3) → ((3 : Int32).toInt = 1 → 0 ≤ (0 : Int32).toInt ∧ (0 : Int32).toInt < (A_14 40 (x_7.toInt + 1).toNat).toInt) → ((3 : Int32).toInt = 6 → x2.toInt ≤ 1) → tO (A_14 40) x_7.toInt → tO (A_17 40) x_7.toInt) := pp_17
        have pp0_17 := zHid.mk pp_17
        try simp only [ti_0, ti_3] at pp_17
        have hff_17 : f_14 = f_17 := funext (fun k9 => (hF_17 k9 List.not_mem_nil).symm)
        subst hff_17
        have FA := frA FA hA_17 (by decide)
        have FF := frF FF hF_17 (by decide)
        have aRc := aR.tl (t := x1.toInt) aRc hTo (by omega) (fC.mv hC_17 (by omega)) (by rw [← hbo_10]; exact pp0_17.1) (by rw [← hbo_10]; exact pp0_17.2 (fun _ => by omega) (fun h9 => absurd h9 (by rw [ti_3]; decide)) (fun h9 => absurd h9 (by rw [ti_3]; decide)))
        refine lv_aload_n hx hb dX12_doubled_50 rfl (lv_at hl 1 rfl) ?_
        refine mg_0 C hs hP ha0 hk0 wf_X12_8 dX12_doubled_51 ?_
        have hf_18 := hO.r (j := 0) ha0 hk0 (rfl : zX 11 0 = some (40, 47730))
        refine lv_iload_n hx hb dX12_doubled_54 rfl (lv_at hl 0 rfl) ?_
        refine lv_bipush (v := 13) hx hb dX12_doubled_55 (by decide) ?_
        refine lv_iadd hx hb dX12_doubled_57 ?_
        refine lv_topi (fun x_19 ex_19 => ?_)
        refine lv_dup2_11 hx hb dX12_doubled_58 rfl rfl ?_
        have hi_hr_20 : zEq x_19.toInt (x_7.toInt + 13) := by
          obtain ⟨f_19, l_19, u_19⟩ := z_add ex_19 rfl ti_13
          try replace f_19 : x_19.toInt = x_7.toInt + 13 := by omega
          clear l_19 u_19
          show x_19.toInt = (x_7.toInt + 13)
          omega
        have hl_hr_20 : (13 : Int) ≤ 13 ∧ 13 ≤ (13 : Int) := by decide
        have hid_hr_20 : (x_7.toInt + 13) = x_7.toInt + (13) := by simp only [Int.add_assoc, Int.add_sub_assoc]
        have hr_20 := z_cell (lo := 10) (hi := 19) hbs_8 hi_hr_20 hid_hr_20 hl_hr_20 (by decide)
        replace hid_hr_20 : zEq (x_7.toInt + 13) (x_7.toInt + (13)) := hid_hr_20
        have hin_21 : vp_in x_19 (zn K (zr K a0 0)) := vp_in_iff.mpr (by rw [(hf_18.2.2 (by decide))]; exact hr_20.in)
        refine mld_40 C hs hP hf_18.1 hf_18.2.1 hin_21 dX12_doubled_59 ?_
        have ep_22 : x_19.toNatClampNeg = (x_7.toInt + 13).toNat := z_posE hi_hr_20
        rw [ep_22]
        obtain ⟨f_19, l_19, u_19⟩ := z_add ex_19 rfl ti_13
        try replace f_19 : x_19.toInt = x_7.toInt + 13 := by omega
        clear l_19 u_19
        have hc_23 := hC_17.ar (by omega) (lo := 13) (hi := 13) (by decide) (x_7.toInt + 13) (by decide) (by omega) (by omega)
        have hc_24 := hC_14.ar (by omega) (lo := 0) (hi := 6449) (by decide) (x_7.toInt + 13) (by decide) (by omega) (by omega)
        have ev_25 : A_17 40 (x_7.toInt + 13).toNat = A 40 (x_7.toInt + 13).toNat := by rw [hc_23, hc_24]
        rw [ev_25]
        clear ep_22
        refine lv_iconst (v := 1) hx hb dX12_doubled_60 (by decide) ?_
        refine lv_iadd hx hb dX12_doubled_61 ?_
        refine lv_topi (fun x_26 ex_26 => ?_)
        have hTo := hT
        have hin_27 : vp_in x_19 (zn K (zr K a0 0)) := vp_in_iff.mpr (by rw [(hf_18.2.2 (by decide))]; exact hr_20.in)
        refine mst_40 C hM hs hP hS hf_18.1 hT hf_18.2.1 hin_27 (tp_10 hr_20) dX12_doubled_62 (fun A_28 H locs hE_28 hT hP hS => ?_)
        have ep_29 : x_19.toNatClampNeg = (x_7.toInt + 13).toNat := z_posE hi_hr_20
        rw [ep_29] at hE_28
        clear ep_29
        have FA := frA FA (frAu hE_28) (by decide)
        have fcs_28 : fC (A_17 40) (A_28 40) (1290 * x1.toInt) [(13, 13)] := fC.s2 hE_28 (by omega) (by decide) (by omega)
        have aRc := aR.fw (t := x1.toInt) aRc hTo (by omega) fcs_28 (by decide) (wz_of fcs_28 (by omega) (by decide)) (by decide) (by decide) (by decide) (by decide) (by decide) (by decide) (by decide) (by decide) (by decide)
        refine lv_aload_n hx hb dX12_doubled_63 rfl (lv_at hl 1 rfl) ?_
        refine mg_0 C hs hP ha0 hk0 wf_X12_8 dX12_doubled_64 ?_
        refine lv_iload_n hx hb dX12_doubled_67 rfl (lv_at hl 0 rfl) ?_
        refine lv_bipush (v := 13) hx hb dX12_doubled_68 (by decide) ?_
        refine lv_iadd hx hb dX12_doubled_70 ?_
        refine lv_topi (fun x_30 ex_30 => ?_)
        have hi_hr_31 : zEq x_30.toInt (x_7.toInt + 13) := by
          obtain ⟨f_30, l_30, u_30⟩ := z_add ex_30 rfl ti_13
          try replace f_30 : x_30.toInt = x_7.toInt + 13 := by omega
          clear l_30 u_30
          show x_30.toInt = (x_7.toInt + 13)
          omega
        have hl_hr_31 : (13 : Int) ≤ 13 ∧ 13 ≤ (13 : Int) := by decide
        have hid_hr_31 : (x_7.toInt + 13) = x_7.toInt + (13) := by simp only [Int.add_assoc, Int.add_sub_assoc]
        have hr_31 := z_cell (lo := 10) (hi := 19) hbs_8 hi_hr_31 hid_hr_31 hl_hr_31 (by decide)
        replace hid_hr_31 : zEq (x_7.toInt + 13) (x_7.toInt + (13)) := hid_hr_31
        have hin_32 : vp_in x_30 (zn K (zr K a0 0)) := vp_in_iff.mpr (by rw [(hf_18.2.2 (by decide))]; exact hr_31.in)
        refine mld_40 C hs hP hf_18.1 hf_18.2.1 hin_32 dX12_doubled_71 ?_
        have ep_33 : x_30.toNatClampNeg = (x_7.toInt + 13).toNat := z_posE hi_hr_31
        rw [ep_33]
        have ev_34 : A_28 40 (x_7.toInt + 13).toNat = x_26 := by rw [hE_28, va_up_self, pk_us]
        rw [ev_34]
        clear ep_33
        have ev_35 : f_14 11 = f 11 := by rw [hF_14 11 (by decide)]
        have ev_36 : f_14 9 = f 9 := by rw [hF_14 9 (by decide)]
        exact maI hQ hx hb hr hlk hP hS ⟨hT, FA, FF, ⟨(aRc.mono (by omega)), (cOk.m1 (by exact pp0_14.1)), by rw [ev_35] <;> omega, by rw [ev_36] <;> omega⟩⟩ dX12_doubled_72
      · skip
        refine lv_bipush (v := (-4)) hx hb dX12_doubled_33 (by decide) ?_
        exact maI hQ hx hb hr hlk hP hS ⟨hT, FA, FF, ⟨(aRc.mono (by omega)), hp0.2.1, by omega, by omega⟩⟩ dX12_doubled_35
    · skip
      replace pp_4 := pp_4.2 c_6
      refine lv_bipush (v := (-2)) hx hb dX12_doubled_15 (by decide) ?_
      exact maI hQ hx hb hr hlk hP hS ⟨hT, FA, FF, ⟨(aRc.mono (by omega)), hp0.2.1, by omega, by omega⟩⟩ dX12_doubled_17
set_option maxHeartbeats 4000000 in
set_option maxRecDepth 100000 in
theorem c_X12_undo (l : Launch) (D : va_G) (K : zK) (hM : mK K) (f : Nat → Int32) (A : Nat → Nat → Int32) (hT : mT f A) (N : Int) (a0 : Nat) (ha0 : a0 ∈ zl K) (hk0 : zk K a0 = 11) (x1 : Int32) (hp0 : okk N f A) (hp1 : 0 ≤ N ∧ N ≤ 600) : Met l yX12_undo (zc yX12_undo cX12_undo 2 (some .int)) (rmd 2) (va_Pc [.ref a0, .int x1] (zB D K (mV K f A))) (mQi D K (fun r f' A' => mT f' A' ∧ (∀ k, k ∉ ([40, 42] : List Nat) → A' k = A k) ∧ (∀ k, k ∉ ([23] : List Nat) → f' k = f k) ∧ okk (N + 1) f' A')) 0 0 (zA K) := by
  refine zin (by decide) (Nat.le_of_ble_eq_true rfl) ?_
  intro p e s m args below meth c ls Q hQ C hr hlk hP hs hl
  have C : CallFix p m c cX12_undo 2 s args zw RX12 := C
  obtain ⟨hx, hb, hml, hown, hts⟩ := id C
  have hO := hM.1
  have hS : va_S (zA K) s.heap s.heap [] := va_S.rf
  have FA : ∀ k, k ∉ ([40, 42] : List Nat) → A k = A k := fun _ _ => rfl
  have FF : ∀ k, k ∉ ([23] : List Nat) → f k = f k := fun _ _ => rfl
  have hl : lv_has ls 2 [(0, .ref a0), (1, .int x1)] := hl
  have aRc := hp0.1
  have hbud := hp0.2.2
  refine lv_aload_n hx hb dX12_undo_0 rfl (lv_at hl 0 rfl) ?_
  refine lv_iload_n hx hb dX12_undo_1 rfl (lv_at hl 1 rfl) ?_
  have hTo := hT
  refine zcS (zrV (As := [.int x1]) (b := a0) (rest := []) C hs hP hS (c_X12_isTable l D K hM f A hT a0 ha0 hk0 x1) m_X12_isTable wm_X12_107 (zrecv hs hP ha0 (zF_11 hk0) rfl) ⟨by decide, by decide⟩ hl.1 (Nat.le_of_ble_eq_true rfl) dX12_undo_2) (fun x_1 p_1 => ?_)
  have pp_1 : (x_1.toInt ≠ 0 → 0 ≤ x1.toInt ∧ x1.toInt ≤ 3) := p_1.2
  have g_2 := z_rng x1
  refine bz_ne (tgt := 11) hx hb rfl dX12_undo_5 (by decide) (fun c_3 => ?_) (fun c_3 => ?_)
  · skip
    replace pp_1 := pp_1 c_3
    refine lv_aload_n hx hb dX12_undo_11 rfl (lv_at hl 0 rfl) ?_
    refine mg_2 C hs hP ha0 hk0 wf_X12_18 dX12_undo_12 ?_
    have hf_4 := hO.r (j := 2) ha0 hk0 (rfl : zX 11 2 = some (42, 4))
    refine lv_iload_n hx hb dX12_undo_15 rfl (lv_at hl 1 rfl) ?_
    have hin_5 : vp_in x1 (zn K (zr K a0 2)) := vp_in_iff.mpr (by rw [(hf_4.2.2 (by decide))]; refine ⟨?_, ?_⟩ <;> omega)
    refine mld_42 C hs hP hf_4.1 hf_4.2.1 hin_5 dX12_undo_16 ?_
    have tv_6 := ra_42 hT (vp_in_iff.mp hin_5).1 (by have h7 := (vp_in_iff.mp hin_5).2; rw [(hf_4.2.2 (by decide))] at h7; exact h7)
    refine bz_ne (tgt := 23) hx hb rfl dX12_undo_17 (by decide) (fun c_7 => ?_) (fun c_7 => ?_)
    · skip
      refine lv_aload_n hx hb dX12_undo_23 rfl (lv_at hl 0 rfl) ?_
      refine mg_2 C hs hP ha0 hk0 wf_X12_18 dX12_undo_24 ?_
      refine lv_iload_n hx hb dX12_undo_27 rfl (lv_at hl 1 rfl) ?_
      refine lv_dup2_11 hx hb dX12_undo_28 rfl rfl ?_
      have hin_8 : vp_in x1 (zn K (zr K a0 2)) := vp_in_iff.mpr (by rw [(hf_4.2.2 (by decide))]; refine ⟨?_, ?_⟩ <;> omega)
      refine mld_42 C hs hP hf_4.1 hf_4.2.1 hin_8 dX12_undo_29 ?_
      refine lv_iconst (v := 1) hx hb dX12_undo_30 (by decide) ?_
      refine lv_isub hx hb dX12_undo_31 ?_
      refine lv_topi (fun x_9 ex_9 => ?_)
      have hTo := hT
      have hin_10 : vp_in x1 (zn K (zr K a0 2)) := vp_in_iff.mpr (by rw [(hf_4.2.2 (by decide))]; refine ⟨?_, ?_⟩ <;> omega)
      have g_12 := z_rng (A 42 x1.toNatClampNeg)
      obtain ⟨f_9, l_9, u_9⟩ := z_sub ex_9 rfl ti_1
      try replace f_9 : x_9.toInt = (A 42 x1.toNatClampNeg).toInt - 1 := by omega
      clear l_9 u_9
      refine mst_42 C hM hs hP hS hf_4.1 hT hf_4.2.1 hin_10 (show 0 ≤ x_9.toInt ∧ x_9.toInt ≤ 8 from by omega) dX12_undo_32 (fun A_11 H locs hE_11 hT hP hS => ?_)
      have FA := frA FA (frAu hE_11) (by decide)
      have aRc : aR (A_11 40) (N) := by rw [frAu hE_11 40 (by decide)]; exact aRc
      refine lv_aload_n hx hb dX12_undo_33 rfl (lv_at hl 0 rfl) ?_
      refine lv_iconst (v := 5) hx hb dX12_undo_34 (by decide) ?_
      refine lv_bipush (v := 8) hx hb dX12_undo_35 (by decide) ?_
      refine lv_iload_n hx hb dX12_undo_37 rfl (lv_at hl 1 rfl) ?_
      refine lv_imul hx hb dX12_undo_38 ?_
      refine lv_topi (fun x_13 ex_13 => ?_)
      refine lv_iadd hx hb dX12_undo_39 ?_
      refine lv_topi (fun x_14 ex_14 => ?_)
      refine lv_aload_n hx hb dX12_undo_40 rfl (lv_at hl 0 rfl) ?_
      refine mg_2 C hs hP ha0 hk0 wf_X12_18 dX12_undo_41 ?_
      refine lv_iload_n hx hb dX12_undo_44 rfl (lv_at hl 1 rfl) ?_
      have hin_15 : vp_in x1 (zn K (zr K a0 2)) := vp_in_iff.mpr (by rw [(hf_4.2.2 (by decide))]; refine ⟨?_, ?_⟩ <;> omega)
      refine mld_42 C hs hP hf_4.1 hf_4.2.1 hin_15 dX12_undo_45 ?_
      have ev_16 : A_11 42 x1.toNatClampNeg = x_9 := by rw [hE_11, va_up_self, pk_us]
      have tv_17 := ra_42 hT (vp_in_iff.mp hin_15).1 (by have h7 := (vp_in_iff.mp hin_15).2; rw [(hf_4.2.2 (by decide))] at h7; exact h7)
      rw [ev_16] at tv_17
      rw [ev_16]
      refine lv_iadd hx hb dX12_undo_46 ?_
      refine lv_topi (fun x_18 ex_18 => ?_)
      refine lv_iload_n hx hb dX12_undo_47 rfl (lv_at hl 1 rfl) ?_
      have hTo := hT
      obtain ⟨f_13, l_13, u_13⟩ := z_mul ex_13 ti_8 rfl
      try replace f_13 : x_13.toInt = 8 * x1.toInt := by omega
      clear l_13 u_13
      obtain ⟨f_14, l_14, u_14⟩ := z_add ex_14 ti_5 rfl
      try replace f_14 : x_14.toInt = 5 + x_13.toInt := by omega
      clear l_14 u_14
      obtain ⟨f_18, l_18, u_18⟩ := z_add ex_18 rfl rfl
      try replace f_18 : x_18.toInt = x_14.toInt + x_9.toInt := by omega
      clear l_18 u_18
      have hq_19 : 0 ≤ x_18.toInt ∧ x_18.toInt ≤ 36 := by (first | assumption | omega | (intros; omega))
      have hq_20 : 0 ≤ x1.toInt ∧ x1.toInt ≤ 36 := by (first | assumption | omega | (intros; omega))
      have hq_21 : x_18.toInt ≠ x1.toInt := by (first | assumption | omega | (intros; omega))
      refine mcV (zrV (As := [.int x_18, .int x1]) (b := a0) (rest := []) C hs hP hS (c_X12_copy l D K hM f A_11 hT a0 ha0 hk0 x_18 x1 hq_19 hq_20 hq_21) m_X12_copy wm_X12_95 (zrecv hs hP ha0 (zF_11 hk0) rfl) ⟨by decide, by decide⟩ hl.1 (Nat.le_of_ble_eq_true rfl) dX12_undo_48) hS (fun f_22 A_22 H locs p_22 hP hS => ?_)
      obtain ⟨hT, hA_22, hF_22, hC_22, pp_22⟩ := p_22
      have pp_22 : cpy (A_11 40) (A_22 40) (1290 * x1.toInt) (1290 * x_18.toInt) 1290 := pp_22
      have pp0_22 := zHid.mk pp_22
      have ev_23 : A_11 40 = A 40 := by rw [hE_11, va_up_ne _ _ (show 40 ≠ 42 by decide)]
      rw [ev_23] at pp_22
      have hff_22 : f = f_22 := funext (fun k9 => (hF_22 k9 List.not_mem_nil).symm)
      subst hff_22
      have FA := frA FA hA_22 (by decide)
      have FF := frF FF hF_22 (by decide)
      have aRc := aR.cp (t := x1.toInt) (s := x_18.toInt) aRc hTo (by omega) (by omega) hC_22 pp0_22
      refine lv_aload_n hx hb dX12_undo_51 rfl (lv_at hl 0 rfl) ?_
      refine lv_iconst (v := (-1)) hx hb dX12_undo_52 (by decide) ?_
      refine mp_23 C hM hs hP hS ha0 hT hk0 wf_X12_56 trivial dX12_undo_53 (fun f_24 H locs hE_24 hT hP hS => ?_)
      have FF := frF FF (frFu hE_24) (by decide)
      refine lv_aload_n hx hb dX12_undo_56 rfl (lv_at hl 0 rfl) ?_
      refine mg_2 C hs hP ha0 hk0 wf_X12_18 dX12_undo_57 ?_
      refine lv_iload_n hx hb dX12_undo_60 rfl (lv_at hl 1 rfl) ?_
      have hin_25 : vp_in x1 (zn K (zr K a0 2)) := vp_in_iff.mpr (by rw [(hf_4.2.2 (by decide))]; refine ⟨?_, ?_⟩ <;> omega)
      refine mld_42 C hs hP hf_4.1 hf_4.2.1 hin_25 dX12_undo_61 ?_
      have ev_26 : A_22 42 x1.toNatClampNeg = x_9 := by rw [hA_22 42 (by decide), hE_11, va_up_self, pk_us]
      rw [ev_26]
      have ev_27 : f_24 11 = f 11 := by rw [hE_24, pk_un (show 11 ≠ 23 by decide)]
      have ev_28 : f_24 9 = f 9 := by rw [hE_24, pk_un (show 9 ≠ 23 by decide)]
      have ev_29 : f_24 23 = ((-1) : Int32) := by rw [hE_24, pk_us]
      have ev_29_i : (f_24 23).toInt = -1 := by rw [ev_29, ti_m1]
      exact maI hQ hx hb hr hlk hP hS ⟨hT, FA, FF, ⟨(aRc.mono (by omega)), (cOk.m1 (by rw [ev_29]; exact ti_m1)), by rw [ev_27] <;> omega, by rw [ev_28] <;> omega⟩⟩ dX12_undo_62
    · skip
      refine lv_bipush (v := (-4)) hx hb dX12_undo_20 (by decide) ?_
      exact maI hQ hx hb hr hlk hP hS ⟨hT, FA, FF, ⟨(aRc.mono (by omega)), hp0.2.1, by omega, by omega⟩⟩ dX12_undo_22
  · skip
    clear pp_1
    refine lv_bipush (v := (-2)) hx hb dX12_undo_8 (by decide) ?_
    exact maI hQ hx hb hr hlk hP hS ⟨hT, FA, FF, ⟨(aRc.mono (by omega)), hp0.2.1, by omega, by omega⟩⟩ dX12_undo_10
