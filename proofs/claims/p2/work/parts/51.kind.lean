set_option maxHeartbeats 4000000 in
set_option maxRecDepth 100000 in
theorem c_X12_kind (l : Launch) (D : va_G) (K : zK) (hM : mK K) (f : Nat → Int32) (A : Nat → Nat → Int32) (hT : mT f A) (a0 : Nat) (ha0 : a0 ∈ zl K) (hk0 : zk K a0 = 11) (x1 : Int32) (x2 : Int32) (x3 : Int32) : Met l yX12_kind (zc yX12_kind cX12_kind 6 (some .int)) (rmd 2) (va_Pc [.ref a0, .int x1, .int x2, .int x3] (zB D K (mV K f A))) (mQi D K (fun r f' A' => mT f' A' ∧ (∀ k, k ∉ ([40] : List Nat) → A' k = A k) ∧ (∀ k, k ∉ ([] : List Nat) → f' k = f k) ∧ fC (A 40) (A' 40) (1290 * x1.toInt) ([(50, 109)] : List (Int × Int)))) 0 0 (zA K) := by
  refine zin (by decide) (Nat.le_of_ble_eq_true rfl) ?_
  intro p e s m args below meth c ls Q hQ C hr hlk hP hs hl
  have C : CallFix p m c cX12_kind 6 s args zw RX12 := C
  obtain ⟨hx, hb, hml, hown, hts⟩ := id C
  have hO := hM.1
  have hS : va_S (zA K) s.heap s.heap [] := va_S.rf
  have FA : ∀ k, k ∉ ([40] : List Nat) → A k = A k := fun _ _ => rfl
  have FF : ∀ k, k ∉ ([] : List Nat) → f k = f k := fun _ _ => rfl
  have FC : fC (A 40) (A 40) (1290 * x1.toInt) ([(50, 109)] : List (Int × Int)) := fun _ _ _ => rfl
  have hl : lv_has ls 6 [(0, .ref a0), (1, .int x1), (2, .int x2), (3, .int x3)] := hl
  refine lv_aload_n hx hb dX12_kind_0 rfl (lv_at hl 0 rfl) ?_
  refine lv_iload_n hx hb dX12_kind_1 rfl (lv_at hl 1 rfl) ?_
  refine zcS (zrV (As := [.int x1]) (b := a0) (rest := []) C hs hP hS (c_X12_isTable l D K hM f A hT a0 ha0 hk0 x1) m_X12_isTable wm_X12_107 (zrecv hs hP ha0 (zF_11 hk0) rfl) ⟨by decide, by decide⟩ hl.1 (Nat.le_of_ble_eq_true rfl) dX12_kind_2) (fun x_1 p_1 => ?_)
  have pp_1 : (x_1.toInt ≠ 0 → 0 ≤ x1.toInt ∧ x1.toInt ≤ 3) := p_1.2
  have g_2 := z_rng x1
  refine bz_eq (tgt := 17) hx hb rfl dX12_kind_5 (by decide) (fun c_3 => ?_) (fun c_3 => ?_)
  · skip
    clear pp_1
    refine lv_bipush (v := (-2)) hx hb dX12_kind_17 (by decide) ?_
    exact maI hQ hx hb hr hlk hP hS ⟨hT, FA, FF, FC⟩ dX12_kind_19
  · skip
    replace pp_1 := pp_1 c_3
    refine lv_aload_n hx hb dX12_kind_8 rfl (lv_at hl 0 rfl) ?_
    refine lv_iload_n hx hb dX12_kind_9 rfl (lv_at hl 1 rfl) ?_
    refine lv_iload_n hx hb dX12_kind_10 rfl (lv_at hl 2 rfl) ?_
    have g_4 := z_rng x2
    have hq_5 : 0 ≤ x1.toInt ∧ x1.toInt ≤ 3 := by (first | assumption | omega | (intros; omega))
    refine zcS (zrV (As := [.int x1, .int x2]) (b := a0) (rest := []) C hs hP hS (c_X12_isCard l D K hM f A hT a0 ha0 hk0 x1 x2 hq_5) m_X12_isCard wm_X12_113 (zrecv hs hP ha0 (zF_11 hk0) rfl) ⟨by decide, by decide⟩ hl.1 (Nat.le_of_ble_eq_true rfl) dX12_kind_11) (fun x_6 p_6 => ?_)
    have pp_6 : (x_6.toInt ≠ 0 → 0 ≤ x2.toInt ∧ x2.toInt ≤ 59) := p_6.2
    refine bz_ne (tgt := 20) hx hb rfl dX12_kind_14 (by decide) (fun c_7 => ?_) (fun c_7 => ?_)
    · skip
      replace pp_6 := pp_6 c_7
      refine lv_iload_n hx hb dX12_kind_20 rfl (lv_at hl 3 rfl) ?_
      refine lv_iconst (v := 0) hx hb dX12_kind_21 (by decide) ?_
      refine lv_iconst (v := 3) hx hb dX12_kind_22 (by decide) ?_
      refine zcS (zrS (As := [.int x3, .int 0, .int 3]) (rest := []) C hs hP hS (c_X12_in l D K hM f A hT x3 0 3) m_X12_in wm_X12_91 ⟨by decide, by decide⟩ hl.1 (Nat.le_of_ble_eq_true rfl) dX12_kind_23) (fun x_8 p_8 => ?_)
      have pp_8 : (x_8.toInt ≠ 0 → (0 : Int32).toInt ≤ x3.toInt ∧ x3.toInt ≤ (3 : Int32).toInt) ∧ (x_8.toInt = 0 → x3.toInt < (0 : Int32).toInt ∨ (3 : Int32).toInt < x3.toInt) := p_8.2
      try simp only [ti_0, ti_3] at pp_8
      have g_9 := z_rng x3
      refine bz_ne (tgt := 32) hx hb rfl dX12_kind_26 (by decide) (fun c_10 => ?_) (fun c_10 => ?_)
      · skip
        replace pp_8 := pp_8.1 c_10
        refine lv_sipush (v := 1290) hx hb dX12_kind_32 (by decide) ?_
        refine lv_iload_n hx hb dX12_kind_35 rfl (lv_at hl 1 rfl) ?_
        refine lv_imul hx hb dX12_kind_36 ?_
        refine lv_topi (fun x_11 ex_11 => ?_)
        refine lv_istore (lv' := [(4, .int x_11), (0, .ref a0), (1, .int x1), (2, .int x2), (3, .int x3)]) hx hb dX12_kind_37 hl (by decide) rfl (fun ls hl => ?_)
        refine lv_aload_n hx hb dX12_kind_39 rfl (lv_at hl 1 rfl) ?_
        refine mg_0 C hs hP ha0 hk0 wf_X12_8 dX12_kind_40 ?_
        have hf_12 := hO.r (j := 0) ha0 hk0 (rfl : zX 11 0 = some (40, 47730))
        refine lv_iload hx hb dX12_kind_43 (lv_at hl 0 rfl) ?_
        refine lv_bipush (v := 110) hx hb dX12_kind_45 (by decide) ?_
        refine lv_iadd hx hb dX12_kind_47 ?_
        refine lv_topi (fun x_13 ex_13 => ?_)
        refine lv_iload_n hx hb dX12_kind_48 rfl (lv_at hl 3 rfl) ?_
        refine lv_iadd hx hb dX12_kind_49 ?_
        refine lv_topi (fun x_14 ex_14 => ?_)
        obtain ⟨f_11, l_11, u_11⟩ := z_mul ex_11 ti_1290 rfl
        try replace f_11 : x_11.toInt = 1290 * x1.toInt := by omega
        clear l_11 u_11
        have hbs_16 : zRow x_11.toInt := zRow.of (t := x1.toInt) (by omega) (by omega)
        have hbl_hbs_16 := hbs_16.lin
        have hi_hr_15 : zEq x_14.toInt (x_11.toInt + x2.toInt + 110) := by
          obtain ⟨f_13, l_13, u_13⟩ := z_add ex_13 rfl ti_110
          try replace f_13 : x_13.toInt = x_11.toInt + 110 := by omega
          clear l_13 u_13
          obtain ⟨f_14, l_14, u_14⟩ := z_add ex_14 rfl rfl
          try replace f_14 : x_14.toInt = x_13.toInt + x2.toInt := by omega
          clear l_14 u_14
          show x_14.toInt = (x_11.toInt + x2.toInt + 110)
          omega
        have hl_hr_15 : 110 ≤ x2.toInt + 110 ∧ x2.toInt + 110 ≤ 169 := by
          omega
        have hid_hr_15 : (x_11.toInt + x2.toInt + 110) = x_11.toInt + (x2.toInt + 110) := by simp only [Int.add_assoc, Int.add_sub_assoc]
        have hr_15 := z_cell (lo := 45) (hi := 169) hbs_16 hi_hr_15 hid_hr_15 hl_hr_15 (by decide)
        replace hid_hr_15 : zEq (x_11.toInt + x2.toInt + 110) (x_11.toInt + (x2.toInt + 110)) := hid_hr_15
        have hin_17 : vp_in x_14 (zn K (zr K a0 0)) := vp_in_iff.mpr (by rw [(hf_12.2.2 (by decide))]; exact hr_15.in)
        refine mld_40 C hs hP hf_12.1 hf_12.2.1 hin_17 dX12_kind_50 ?_
        have ep_18 : x_14.toNatClampNeg = (x_11.toInt + x2.toInt + 110).toNat := z_posE hi_hr_15
        rw [ep_18]
        refine bz_eq (tgt := 57) hx hb rfl dX12_kind_51 (by decide) (fun c_19 => ?_) (fun c_19 => ?_)
        · skip
          refine lv_aload_n hx hb dX12_kind_57 rfl (lv_at hl 1 rfl) ?_
          refine mg_0 C hs hP ha0 hk0 wf_X12_8 dX12_kind_58 ?_
          refine lv_iload hx hb dX12_kind_61 (lv_at hl 0 rfl) ?_
          refine lv_bipush (v := 50) hx hb dX12_kind_63 (by decide) ?_
          refine lv_iadd hx hb dX12_kind_65 ?_
          refine lv_topi (fun x_20 ex_20 => ?_)
          refine lv_iload_n hx hb dX12_kind_66 rfl (lv_at hl 3 rfl) ?_
          refine lv_iadd hx hb dX12_kind_67 ?_
          refine lv_topi (fun x_21 ex_21 => ?_)
          have hi_hr_22 : zEq x_21.toInt (x_11.toInt + x2.toInt + 50) := by
            obtain ⟨f_20, l_20, u_20⟩ := z_add ex_20 rfl ti_50
            try replace f_20 : x_20.toInt = x_11.toInt + 50 := by omega
            clear l_20 u_20
            obtain ⟨f_21, l_21, u_21⟩ := z_add ex_21 rfl rfl
            try replace f_21 : x_21.toInt = x_20.toInt + x2.toInt := by omega
            clear l_21 u_21
            show x_21.toInt = (x_11.toInt + x2.toInt + 50)
            omega
          have hl_hr_22 : 50 ≤ x2.toInt + 50 ∧ x2.toInt + 50 ≤ 109 := by
            omega
          have hid_hr_22 : (x_11.toInt + x2.toInt + 50) = x_11.toInt + (x2.toInt + 50) := by simp only [Int.add_assoc, Int.add_sub_assoc]
          have hr_22 := z_cell (lo := 45) (hi := 169) hbs_16 hi_hr_22 hid_hr_22 hl_hr_22 (by decide)
          replace hid_hr_22 : zEq (x_11.toInt + x2.toInt + 50) (x_11.toInt + (x2.toInt + 50)) := hid_hr_22
          have hin_23 : vp_in x_21 (zn K (zr K a0 0)) := vp_in_iff.mpr (by rw [(hf_12.2.2 (by decide))]; exact hr_22.in)
          refine mld_40 C hs hP hf_12.1 hf_12.2.1 hin_23 dX12_kind_68 ?_
          have ep_24 : x_21.toNatClampNeg = (x_11.toInt + x2.toInt + 50).toNat := z_posE hi_hr_22
          rw [ep_24]
          refine lv_istore (lv' := [(5, .int (A 40 (x_11.toInt + x2.toInt + 50).toNat)), (4, .int x_11), (0, .ref a0), (1, .int x1), (2, .int x2), (3, .int x3)]) hx hb dX12_kind_69 hl (by decide) rfl (fun ls hl => ?_)
          refine lv_aload_n hx hb dX12_kind_71 rfl (lv_at hl 2 rfl) ?_
          refine mg_0 C hs hP ha0 hk0 wf_X12_8 dX12_kind_72 ?_
          refine lv_iload hx hb dX12_kind_75 (lv_at hl 1 rfl) ?_
          refine lv_bipush (v := 50) hx hb dX12_kind_77 (by decide) ?_
          refine lv_iadd hx hb dX12_kind_79 ?_
          refine lv_topi (fun x_25 ex_25 => ?_)
          refine lv_iload_n hx hb dX12_kind_80 rfl (lv_at hl 4 rfl) ?_
          refine lv_iadd hx hb dX12_kind_81 ?_
          refine lv_topi (fun x_26 ex_26 => ?_)
          refine lv_iload_n hx hb dX12_kind_82 rfl (lv_at hl 5 rfl) ?_
          have hi_hr_27 : zEq x_26.toInt (x_11.toInt + x2.toInt + 50) := by
            obtain ⟨f_25, l_25, u_25⟩ := z_add ex_25 rfl ti_50
            try replace f_25 : x_25.toInt = x_11.toInt + 50 := by omega
            clear l_25 u_25
            obtain ⟨f_26, l_26, u_26⟩ := z_add ex_26 rfl rfl
            try replace f_26 : x_26.toInt = x_25.toInt + x2.toInt := by omega
            clear l_26 u_26
            show x_26.toInt = (x_11.toInt + x2.toInt + 50)
            omega
          have hl_hr_27 : 50 ≤ x2.toInt + 50 ∧ x2.toInt + 50 ≤ 109 := by
            omega
          have hid_hr_27 : (x_11.toInt + x2.toInt + 50) = x_11.toInt + (x2.toInt + 50) := by simp only [Int.add_assoc, Int.add_sub_assoc]
          have hr_27 := z_cell (lo := 45) (hi := 169) hbs_16 hi_hr_27 hid_hr_27 hl_hr_27 (by decide)
          replace hid_hr_27 : zEq (x_11.toInt + x2.toInt + 50) (x_11.toInt + (x2.toInt + 50)) := hid_hr_27
          have hin_28 : vp_in x_26 (zn K (zr K a0 0)) := vp_in_iff.mpr (by rw [(hf_12.2.2 (by decide))]; exact hr_27.in)
          refine mst_40 C hM hs hP hS hf_12.1 hT hf_12.2.1 hin_28 (tp_45 hr_27) dX12_kind_83 (fun A_29 H locs hE_29 hT hP hS => ?_)
          have ep_30 : x_26.toNatClampNeg = (x_11.toInt + x2.toInt + 50).toNat := z_posE hi_hr_27
          rw [ep_30] at hE_29
          have FA := frA FA (frAu hE_29) (by decide)
          have FC := fC.tr FC (fC.mv (fC.st (b := x_11.toInt) (lo := 50) (hi := 109) hE_29 hbs_16.lin.1 (by decide) hid_hr_27 hl_hr_27) (by omega)) (by decide)
          refine lv_iload hx hb dX12_kind_84 (lv_at hl 0 rfl) ?_
          exact maI hQ hx hb hr hlk hP hS ⟨hT, FA, FF, FC⟩ dX12_kind_86
        · skip
          refine lv_bipush (v := (-4)) hx hb dX12_kind_54 (by decide) ?_
          exact maI hQ hx hb hr hlk hP hS ⟨hT, FA, FF, FC⟩ dX12_kind_56
      · skip
        replace pp_8 := pp_8.2 c_10
        refine lv_bipush (v := (-3)) hx hb dX12_kind_29 (by decide) ?_
        exact maI hQ hx hb hr hlk hP hS ⟨hT, FA, FF, FC⟩ dX12_kind_31
    · skip
      clear pp_6
      refine lv_bipush (v := (-2)) hx hb dX12_kind_17 (by decide) ?_
      exact maI hQ hx hb hr hlk hP hS ⟨hT, FA, FF, FC⟩ dX12_kind_19
set_option maxHeartbeats 4000000 in
set_option maxRecDepth 100000 in
theorem c_X12_match (l : Launch) (D : va_G) (K : zK) (hM : mK K) (f : Nat → Int32) (A : Nat → Nat → Int32) (hT : mT f A) (a0 : Nat) (ha0 : a0 ∈ zl K) (hk0 : zk K a0 = 11) (x1 : Int32) (x2 : Int32) : Met l yX12_match (zc yX12_match cX12_match 6 (some .int)) (rmd 2) (va_Pc [.ref a0, .int x1, .int x2] (zB D K (mV K f A))) (mQi D K (fun r f' A' => mT f' A' ∧ (∀ k, k ∉ ([40] : List Nat) → A' k = A k) ∧ (∀ k, k ∉ ([] : List Nat) → f' k = f k) ∧ fC (A 40) (A' 40) (1290 * x1.toInt) ([(7, 8), (39, 42)] : List (Int × Int)))) 0 0 (zA K) := by
  refine zin (by decide) (Nat.le_of_ble_eq_true rfl) ?_
  intro p e s m args below meth c ls Q hQ C hr hlk hP hs hl
  have C : CallFix p m c cX12_match 6 s args zw RX12 := C
  obtain ⟨hx, hb, hml, hown, hts⟩ := id C
  have hO := hM.1
  have hS : va_S (zA K) s.heap s.heap [] := va_S.rf
  have FA : ∀ k, k ∉ ([40] : List Nat) → A k = A k := fun _ _ => rfl
  have FF : ∀ k, k ∉ ([] : List Nat) → f k = f k := fun _ _ => rfl
  have FC : fC (A 40) (A 40) (1290 * x1.toInt) ([(7, 8), (39, 42)] : List (Int × Int)) := fun _ _ _ => rfl
  have hl : lv_has ls 6 [(0, .ref a0), (1, .int x1), (2, .int x2)] := hl
  refine lv_aload_n hx hb dX12_match_0 rfl (lv_at hl 0 rfl) ?_
  refine lv_iload_n hx hb dX12_match_1 rfl (lv_at hl 1 rfl) ?_
  refine zcS (zrV (As := [.int x1]) (b := a0) (rest := []) C hs hP hS (c_X12_isTable l D K hM f A hT a0 ha0 hk0 x1) m_X12_isTable wm_X12_107 (zrecv hs hP ha0 (zF_11 hk0) rfl) ⟨by decide, by decide⟩ hl.1 (Nat.le_of_ble_eq_true rfl) dX12_match_2) (fun x_1 p_1 => ?_)
  have pp_1 : (x_1.toInt ≠ 0 → 0 ≤ x1.toInt ∧ x1.toInt ≤ 3) := p_1.2
  have g_2 := z_rng x1
  refine bz_ne (tgt := 11) hx hb rfl dX12_match_5 (by decide) (fun c_3 => ?_) (fun c_3 => ?_)
  · skip
    replace pp_1 := pp_1 c_3
    refine lv_iload_n hx hb dX12_match_11 rfl (lv_at hl 2 rfl) ?_
    refine lv_iconst (v := 1) hx hb dX12_match_12 (by decide) ?_
    refine lv_sipush (v := 200) hx hb dX12_match_13 (by decide) ?_
    refine zcS (zrS (As := [.int x2, .int 1, .int 200]) (rest := []) C hs hP hS (c_X12_in l D K hM f A hT x2 1 200) m_X12_in wm_X12_91 ⟨by decide, by decide⟩ hl.1 (Nat.le_of_ble_eq_true rfl) dX12_match_16) (fun x_4 p_4 => ?_)
    have pp_4 : (x_4.toInt ≠ 0 → (1 : Int32).toInt ≤ x2.toInt ∧ x2.toInt ≤ (200 : Int32).toInt) ∧ (x_4.toInt = 0 → x2.toInt < (1 : Int32).toInt ∨ (200 : Int32).toInt < x2.toInt) := p_4.2
    try simp only [ti_1, ti_200] at pp_4
    have g_5 := z_rng x2
    refine bz_ne (tgt := 25) hx hb rfl dX12_match_19 (by decide) (fun c_6 => ?_) (fun c_6 => ?_)
    · skip
      replace pp_4 := pp_4.1 c_6
      refine lv_sipush (v := 1290) hx hb dX12_match_25 (by decide) ?_
      refine lv_iload_n hx hb dX12_match_28 rfl (lv_at hl 1 rfl) ?_
      refine lv_imul hx hb dX12_match_29 ?_
      refine lv_topi (fun x_7 ex_7 => ?_)
      refine lv_istore_n (lv' := [(3, .int x_7), (0, .ref a0), (1, .int x1), (2, .int x2)]) hx hb dX12_match_30 rfl hl (by decide) rfl (fun ls hl => ?_)
      refine lv_aload_n hx hb dX12_match_31 rfl (lv_at hl 1 rfl) ?_
      refine mg_0 C hs hP ha0 hk0 wf_X12_8 dX12_match_32 ?_
      have hf_8 := hO.r (j := 0) ha0 hk0 (rfl : zX 11 0 = some (40, 47730))
      refine lv_iload_n hx hb dX12_match_35 rfl (lv_at hl 0 rfl) ?_
      refine lv_iconst (v := 5) hx hb dX12_match_36 (by decide) ?_
      refine lv_iadd hx hb dX12_match_37 ?_
      refine lv_topi (fun x_9 ex_9 => ?_)
      obtain ⟨f_7, l_7, u_7⟩ := z_mul ex_7 ti_1290 rfl
      try replace f_7 : x_7.toInt = 1290 * x1.toInt := by omega
      clear l_7 u_7
      have hbs_11 : zRow x_7.toInt := zRow.of (t := x1.toInt) (by omega) (by omega)
      have hbl_hbs_11 := hbs_11.lin
      have hi_hr_10 : zEq x_9.toInt (x_7.toInt + 5) := by
        obtain ⟨f_9, l_9, u_9⟩ := z_add ex_9 rfl ti_5
        try replace f_9 : x_9.toInt = x_7.toInt + 5 := by omega
        clear l_9 u_9
        show x_9.toInt = (x_7.toInt + 5)
        omega
      have hl_hr_10 : (5 : Int) ≤ 5 ∧ 5 ≤ (5 : Int) := by decide
      have hid_hr_10 : (x_7.toInt + 5) = x_7.toInt + (5) := by simp only [Int.add_assoc, Int.add_sub_assoc]
      have hr_10 := z_cell (lo := 2) (hi := 8) hbs_11 hi_hr_10 hid_hr_10 hl_hr_10 (by decide)
      replace hid_hr_10 : zEq (x_7.toInt + 5) (x_7.toInt + (5)) := hid_hr_10
      have hin_12 : vp_in x_9 (zn K (zr K a0 0)) := vp_in_iff.mpr (by rw [(hf_8.2.2 (by decide))]; exact hr_10.in)
      refine mld_40 C hs hP hf_8.1 hf_8.2.1 hin_12 dX12_match_38 ?_
      have ep_13 : x_9.toNatClampNeg = (x_7.toInt + 5).toNat := z_posE hi_hr_10
      rw [ep_13]
      refine lv_iconst (v := 1) hx hb dX12_match_39 (by decide) ?_
      refine bi_ne (tgt := 46) hx hb rfl ti_1 dX12_match_40 (by decide) (fun c_14 => ?_) (fun c_14 => ?_)
      · skip
        refine lv_aload_n hx hb dX12_match_46 rfl (lv_at hl 1 rfl) ?_
        refine mg_0 C hs hP ha0 hk0 wf_X12_8 dX12_match_47 ?_
        refine lv_iload_n hx hb dX12_match_50 rfl (lv_at hl 0 rfl) ?_
        refine lv_bipush (v := 8) hx hb dX12_match_51 (by decide) ?_
        refine lv_iadd hx hb dX12_match_53 ?_
        refine lv_topi (fun x_15 ex_15 => ?_)
        have hi_hr_16 : zEq x_15.toInt (x_7.toInt + 8) := by
          obtain ⟨f_15, l_15, u_15⟩ := z_add ex_15 rfl ti_8
          try replace f_15 : x_15.toInt = x_7.toInt + 8 := by omega
          clear l_15 u_15
          show x_15.toInt = (x_7.toInt + 8)
          omega
        have hl_hr_16 : (8 : Int) ≤ 8 ∧ 8 ≤ (8 : Int) := by decide
        have hid_hr_16 : (x_7.toInt + 8) = x_7.toInt + (8) := by simp only [Int.add_assoc, Int.add_sub_assoc]
        have hr_16 := z_cell (lo := 2) (hi := 8) hbs_11 hi_hr_16 hid_hr_16 hl_hr_16 (by decide)
        replace hid_hr_16 : zEq (x_7.toInt + 8) (x_7.toInt + (8)) := hid_hr_16
        have hin_17 : vp_in x_15 (zn K (zr K a0 0)) := vp_in_iff.mpr (by rw [(hf_8.2.2 (by decide))]; exact hr_16.in)
        refine mld_40 C hs hP hf_8.1 hf_8.2.1 hin_17 dX12_match_54 ?_
        have ep_18 : x_15.toNatClampNeg = (x_7.toInt + 8).toNat := z_posE hi_hr_16
        rw [ep_18]
        refine lv_istore (lv' := [(4, .int (A 40 (x_7.toInt + 8).toNat)), (3, .int x_7), (0, .ref a0), (1, .int x1), (2, .int x2)]) hx hb dX12_match_55 hl (by decide) rfl (fun ls hl => ?_)
        refine lv_aload_n hx hb dX12_match_57 rfl (lv_at hl 2 rfl) ?_
        refine mg_0 C hs hP ha0 hk0 wf_X12_8 dX12_match_58 ?_
        refine lv_iload_n hx hb dX12_match_61 rfl (lv_at hl 1 rfl) ?_
        refine lv_bipush (v := 7) hx hb dX12_match_62 (by decide) ?_
        refine lv_iadd hx hb dX12_match_64 ?_
        refine lv_topi (fun x_19 ex_19 => ?_)
        refine lv_iload_n hx hb dX12_match_65 rfl (lv_at hl 4 rfl) ?_
        have hi_hr_20 : zEq x_19.toInt (x_7.toInt + 7) := by
          obtain ⟨f_19, l_19, u_19⟩ := z_add ex_19 rfl ti_7
          try replace f_19 : x_19.toInt = x_7.toInt + 7 := by omega
          clear l_19 u_19
          show x_19.toInt = (x_7.toInt + 7)
          omega
        have hl_hr_20 : (7 : Int) ≤ 7 ∧ 7 ≤ (7 : Int) := by decide
        have hid_hr_20 : (x_7.toInt + 7) = x_7.toInt + (7) := by simp only [Int.add_assoc, Int.add_sub_assoc]
        have hr_20 := z_cell (lo := 2) (hi := 8) hbs_11 hi_hr_20 hid_hr_20 hl_hr_20 (by decide)
        replace hid_hr_20 : zEq (x_7.toInt + 7) (x_7.toInt + (7)) := hid_hr_20
        have hin_21 : vp_in x_19 (zn K (zr K a0 0)) := vp_in_iff.mpr (by rw [(hf_8.2.2 (by decide))]; exact hr_20.in)
        refine mst_40 C hM hs hP hS hf_8.1 hT hf_8.2.1 hin_21 (tp_2 hr_20) dX12_match_66 (fun A_22 H locs hE_22 hT hP hS => ?_)
        have ep_23 : x_19.toNatClampNeg = (x_7.toInt + 7).toNat := z_posE hi_hr_20
        rw [ep_23] at hE_22
        have FA := frA FA (frAu hE_22) (by decide)
        have FC := fC.tr FC (fC.mv (fC.st (b := x_7.toInt) (lo := 7) (hi := 7) hE_22 hbs_11.lin.1 (by decide) hid_hr_20 hl_hr_20) (by omega)) (by decide)
        refine lv_aload_n hx hb dX12_match_67 rfl (lv_at hl 2 rfl) ?_
        refine mg_0 C hs hP ha0 hk0 wf_X12_8 dX12_match_68 ?_
        refine lv_iload_n hx hb dX12_match_71 rfl (lv_at hl 1 rfl) ?_
        refine lv_bipush (v := 8) hx hb dX12_match_72 (by decide) ?_
        refine lv_iadd hx hb dX12_match_74 ?_
        refine lv_topi (fun x_24 ex_24 => ?_)
        refine lv_iconst (v := 0) hx hb dX12_match_75 (by decide) ?_
        have hi_hr_25 : zEq x_24.toInt (x_7.toInt + 8) := by
          obtain ⟨f_24, l_24, u_24⟩ := z_add ex_24 rfl ti_8
          try replace f_24 : x_24.toInt = x_7.toInt + 8 := by omega
          clear l_24 u_24
          show x_24.toInt = (x_7.toInt + 8)
          omega
        have hl_hr_25 : (8 : Int) ≤ 8 ∧ 8 ≤ (8 : Int) := by decide
        have hid_hr_25 : (x_7.toInt + 8) = x_7.toInt + (8) := by simp only [Int.add_assoc, Int.add_sub_assoc]
        have hr_25 := z_cell (lo := 2) (hi := 8) hbs_11 hi_hr_25 hid_hr_25 hl_hr_25 (by decide)
        replace hid_hr_25 : zEq (x_7.toInt + 8) (x_7.toInt + (8)) := hid_hr_25
        have hin_26 : vp_in x_24 (zn K (zr K a0 0)) := vp_in_iff.mpr (by rw [(hf_8.2.2 (by decide))]; exact hr_25.in)
        refine mst_40 C hM hs hP hS hf_8.1 hT hf_8.2.1 hin_26 (tp_2 hr_25) dX12_match_76 (fun A_27 H locs hE_27 hT hP hS => ?_)
        have ep_28 : x_24.toNatClampNeg = (x_7.toInt + 8).toNat := z_posE hi_hr_25
        rw [ep_28] at hE_27
        have FA := frA FA (frAu hE_27) (by decide)
        have FC := fC.tr FC (fC.mv (fC.st (b := x_7.toInt) (lo := 8) (hi := 8) hE_27 hbs_11.lin.1 (by decide) hid_hr_25 hl_hr_25) (by omega)) (by decide)
        refine lv_iconst (v := 0) hx hb dX12_match_77 (by decide) ?_
        refine lv_istore (lv' := [(5, .int 0), (4, .int (A 40 (x_7.toInt + 8).toNat)), (3, .int x_7), (0, .ref a0), (1, .int x1), (2, .int x2)]) hx hb dX12_match_78 hl (by decide) rfl (fun ls hl => ?_)
        have L_80_30 : ∀ (n_30 : Nat) (A_31 : Nat → Nat → Int32) (H : Heap) (locs : List Loc) (y_29 : Int32) (ls : Array Slot), (2147483648 - y_29.toInt).toNat < n_30 → 0 ≤ y_29.toInt → (∀ k, k ∉ ([40] : List Nat) → A_31 k = A k) → fC (A 40) (A_31 40) (1290 * x1.toInt) ([(7, 8), (39, 42)] : List (Int × Int)) → mT f A_31 → va_P D vwCl (zW K (mV K f A_31)) H → va_S (zA K) s.heap H locs → lv_has ls 6 [(5, .int y_29), (4, .int (A 40 (x_7.toInt + 8).toNat)), (3, .int x_7), (0, .ref a0), (1, .int x1), (2, .int x2)] → W p l e (rmd 2) s m args below meth c H locs 0 0 Q (F0 m 80 ls []) := by
          intro n_30
          induction n_30 with
          | zero => intro A_31 H locs y_29 ls hm_30; exact absurd hm_30 (Nat.not_lt_zero _)
          | succ n_30 ih_30 =>
            intro A_31 H locs y_29 ls hm_30 iv_31_0 FA_31 FC_31 hT hP hS hl
            have FA := FA_31
            have FC := FC_31
            refine lv_iload hx hb dX12_match_80 (lv_at hl 0 rfl) ?_
            refine lv_iconst (v := 4) hx hb dX12_match_82 (by decide) ?_
            refine bi_ge (tgt := 105) hx hb rfl ti_4 dX12_match_83 (by decide) (fun c_33 => ?_) (fun c_33 => ?_)
            · skip
              refine lv_iload hx hb dX12_match_105 (lv_at hl 1 rfl) ?_
              exact maI hQ hx hb hr hlk hP hS ⟨hT, FA, FF, FC⟩ dX12_match_107
            · skip
              refine lv_aload_n hx hb dX12_match_86 rfl (lv_at hl 3 rfl) ?_
              refine mg_0 C hs hP ha0 hk0 wf_X12_8 dX12_match_87 ?_
              refine lv_iload_n hx hb dX12_match_90 rfl (lv_at hl 2 rfl) ?_
              refine lv_bipush (v := 39) hx hb dX12_match_91 (by decide) ?_
              refine lv_iadd hx hb dX12_match_93 ?_
              refine lv_topi (fun x_34 ex_34 => ?_)
              refine lv_iload hx hb dX12_match_94 (lv_at hl 0 rfl) ?_
              refine lv_iadd hx hb dX12_match_96 ?_
              refine lv_topi (fun x_35 ex_35 => ?_)
              refine lv_iconst (v := 0) hx hb dX12_match_97 (by decide) ?_
              have hi_hr_36 : zEq x_35.toInt (x_7.toInt + y_29.toInt + 39) := by
                obtain ⟨f_34, l_34, u_34⟩ := z_add ex_34 rfl ti_39
                try replace f_34 : x_34.toInt = x_7.toInt + 39 := by omega
                clear l_34 u_34
                have g_37 := z_rng y_29
                obtain ⟨f_35, l_35, u_35⟩ := z_add ex_35 rfl rfl
                try replace f_35 : x_35.toInt = x_34.toInt + y_29.toInt := by omega
                clear l_35 u_35
                show x_35.toInt = (x_7.toInt + y_29.toInt + 39)
                omega
              have hl_hr_36 : 39 ≤ y_29.toInt + 39 ∧ y_29.toInt + 39 ≤ 42 := by
                have g_38 := z_rng y_29
                omega
              have hid_hr_36 : (x_7.toInt + y_29.toInt + 39) = x_7.toInt + (y_29.toInt + 39) := by simp only [Int.add_assoc, Int.add_sub_assoc]
              have hr_36 := z_cell (lo := 39) (hi := 42) hbs_11 hi_hr_36 hid_hr_36 hl_hr_36 (by decide)
              replace hid_hr_36 : zEq (x_7.toInt + y_29.toInt + 39) (x_7.toInt + (y_29.toInt + 39)) := hid_hr_36
              have hin_39 : vp_in x_35 (zn K (zr K a0 0)) := vp_in_iff.mpr (by rw [(hf_8.2.2 (by decide))]; exact hr_36.in)
              refine mst_40 C hM hs hP hS hf_8.1 hT hf_8.2.1 hin_39 (tp_39 hr_36) dX12_match_98 (fun A_40 H locs hE_40 hT hP hS => ?_)
              have ep_41 : x_35.toNatClampNeg = (x_7.toInt + y_29.toInt + 39).toNat := z_posE hi_hr_36
              rw [ep_41] at hE_40
              have FA := frA FA (frAu hE_40) (by decide)
              have FC := fC.tr FC (fC.mv (fC.st (b := x_7.toInt) (lo := 39) (hi := 42) hE_40 hbs_11.lin.1 (by decide) hid_hr_36 hl_hr_36) (by omega)) (by decide)
              obtain ⟨x_42, ex_42⟩ : ∃ y : Int32, y = y_29 + 1 := ⟨_, rfl⟩
              refine lv_iinc (v := x_42) (lv' := [(5, .int x_42), (4, .int (A 40 (x_7.toInt + 8).toNat)), (3, .int x_7), (0, .ref a0), (1, .int x1), (2, .int x2)]) hx hb dX12_match_99 hl (k := 0) rfl (by rw [ex_42]; rfl) (by decide) rfl (fun ls hl => ?_)
              refine lv_goto (tgt := 80) hx hb dX12_match_102 (by decide) ?_
              have g_43 := z_rng y_29
              obtain ⟨f_42, l_42, u_42⟩ := z_add ex_42 rfl ti_1
              try replace f_42 : x_42.toInt = y_29.toInt + 1 := by omega
              clear l_42 u_42
              exact ih_30 A_40 _ _ x_42 _ (by omega) (by omega) FA FC hT hP hS (lv_sub hl [0, 1, 2, 3, 4, 5] rfl)
        have g_44 := z_rng (A 40 (x_7.toInt + 5).toNat)
        have g_45 := z_rng x_1
        have g_46 := z_rng x_4
        exact L_80_30 _ A_27 _ _ 0 _ (Nat.lt_succ_self _) (by (try simp only [ti_0]); omega) FA FC hT hP hS (lv_sub hl [0, 1, 2, 3, 4, 5] rfl)
      · skip
        refine lv_bipush (v := (-4)) hx hb dX12_match_43 (by decide) ?_
        exact maI hQ hx hb hr hlk hP hS ⟨hT, FA, FF, FC⟩ dX12_match_45
    · skip
      replace pp_4 := pp_4.2 c_6
      refine lv_bipush (v := (-3)) hx hb dX12_match_22 (by decide) ?_
      exact maI hQ hx hb hr hlk hP hS ⟨hT, FA, FF, FC⟩ dX12_match_24
  · skip
    clear pp_1
    refine lv_bipush (v := (-2)) hx hb dX12_match_8 (by decide) ?_
    exact maI hQ hx hb hr hlk hP hS ⟨hT, FA, FF, FC⟩ dX12_match_10
set_option maxHeartbeats 4000000 in
set_option maxRecDepth 100000 in
theorem c_X12_endBars (l : Launch) (D : va_G) (K : zK) (hM : mK K) (f : Nat → Int32) (A : Nat → Nat → Int32) (hT : mT f A) (a0 : Nat) (ha0 : a0 ∈ zl K) (hk0 : zk K a0 = 11) (x1 : Int32) (x2 : Int32) : Met l yX12_endBars (zc yX12_endBars cX12_endBars 3 (some .int)) (rmd 2) (va_Pc [.ref a0, .int x1, .int x2] (zB D K (mV K f A))) (vp_Si (fun r => (0 ≤ r.toInt → 0 ≤ x1.toInt ∧ x1.toInt ≤ 3 ∧ 0 ≤ x2.toInt ∧ x2.toInt ≤ 1 ∧ (A 40 (1290 * x1.toInt + 5).toNat).toInt = 1 ∧ h4 (A 40) (1290 * x1.toInt) 4))) 0 0 (fun _ => False) := by
  refine zin (by decide) (Nat.le_of_ble_eq_true rfl) ?_
  intro p e s m args below meth c ls Q hQ C hr hlk hP hs hl
  have C : CallFix p m c cX12_endBars 3 s args zw RX12 := C
  obtain ⟨hx, hb, hml, hown, hts⟩ := id C
  have hO := hM.1
  have hS : va_S (zA K) s.heap s.heap [] := va_S.rf
  have hl : lv_has ls 3 [(0, .ref a0), (1, .int x1), (2, .int x2)] := hl
  refine lv_aload_n hx hb dX12_endBars_0 rfl (lv_at hl 0 rfl) ?_
  refine lv_iload_n hx hb dX12_endBars_1 rfl (lv_at hl 1 rfl) ?_
  refine zcS (zrV (As := [.int x1]) (b := a0) (rest := []) C hs hP hS (c_X12_isTable l D K hM f A hT a0 ha0 hk0 x1) m_X12_isTable wm_X12_107 (zrecv hs hP ha0 (zF_11 hk0) rfl) ⟨by decide, by decide⟩ hl.1 (Nat.le_of_ble_eq_true rfl) dX12_endBars_2) (fun x_1 p_1 => ?_)
  have pp_1 : (x_1.toInt ≠ 0 → 0 ≤ x1.toInt ∧ x1.toInt ≤ 3) := p_1.2
  have g_2 := z_rng x1
  refine bz_eq (tgt := 17) hx hb rfl dX12_endBars_5 (by decide) (fun c_3 => ?_) (fun c_3 => ?_)
  · skip
    clear pp_1
    refine lv_bipush (v := (-2)) hx hb dX12_endBars_17 (by decide) ?_
    exact zaS hQ hx hb hr hlk (fun h9 => absurd h9 (by rw [ti_m2]; decide)) dX12_endBars_19
  · skip
    replace pp_1 := pp_1 c_3
    refine lv_iload_n hx hb dX12_endBars_8 rfl (lv_at hl 2 rfl) ?_
    refine lv_iconst (v := 0) hx hb dX12_endBars_9 (by decide) ?_
    refine lv_iconst (v := 1) hx hb dX12_endBars_10 (by decide) ?_
    refine zcS (zrS (As := [.int x2, .int 0, .int 1]) (rest := []) C hs hP hS (c_X12_in l D K hM f A hT x2 0 1) m_X12_in wm_X12_91 ⟨by decide, by decide⟩ hl.1 (Nat.le_of_ble_eq_true rfl) dX12_endBars_11) (fun x_4 p_4 => ?_)
    have pp_4 : (x_4.toInt ≠ 0 → (0 : Int32).toInt ≤ x2.toInt ∧ x2.toInt ≤ (1 : Int32).toInt) ∧ (x_4.toInt = 0 → x2.toInt < (0 : Int32).toInt ∨ (1 : Int32).toInt < x2.toInt) := p_4.2
    try simp only [ti_0, ti_1] at pp_4
    have g_5 := z_rng x2
    refine bz_ne (tgt := 20) hx hb rfl dX12_endBars_14 (by decide) (fun c_6 => ?_) (fun c_6 => ?_)
    · skip
      replace pp_4 := pp_4.1 c_6
      refine lv_aload_n hx hb dX12_endBars_20 rfl (lv_at hl 0 rfl) ?_
      refine lv_sipush (v := 1290) hx hb dX12_endBars_21 (by decide) ?_
      refine lv_iload_n hx hb dX12_endBars_24 rfl (lv_at hl 1 rfl) ?_
      refine lv_imul hx hb dX12_endBars_25 ?_
      refine lv_topi (fun x_7 ex_7 => ?_)
      obtain ⟨f_7, l_7, u_7⟩ := z_mul ex_7 ti_1290 rfl
      try replace f_7 : x_7.toInt = 1290 * x1.toInt := by omega
      clear l_7 u_7
      have hbs_8 : zRow x_7.toInt := zRow.of (t := x1.toInt) (by omega) (by omega)
      have hbl_hbs_8 := hbs_8.lin
      refine zcS (zrV (As := [.int x_7]) (b := a0) (rest := []) C hs hP hS (c_X12_isEnd l D K hM f A hT a0 ha0 hk0 x_7 hbs_8) m_X12_isEnd wm_X12_301 (zrecv hs hP ha0 (zF_11 hk0) rfl) ⟨by decide, by decide⟩ hl.1 (Nat.le_of_ble_eq_true rfl) dX12_endBars_26) (fun x_9 p_9 => ?_)
      have pp_9 : (x_9.toInt ≠ 0 → (A 40 (x_7.toInt + 5).toNat).toInt = 1 ∧ h4 (A 40) x_7.toInt 4) := p_9.2
      refine bz_eq (tgt := 36) hx hb rfl dX12_endBars_29 (by decide) (fun c_10 => ?_) (fun c_10 => ?_)
      · skip
        clear pp_9
        refine lv_bipush (v := (-4)) hx hb dX12_endBars_36 (by decide) ?_
        exact zaS hQ hx hb hr hlk (fun h9 => absurd h9 (by rw [ti_m4]; decide)) dX12_endBars_38
      · skip
        replace pp_9 := pp_9 c_10
        refine lv_iconst (v := 0) hx hb dX12_endBars_32 (by decide) ?_
        refine lv_goto (tgt := 38) hx hb dX12_endBars_33 (by decide) ?_
        have hx_11 : x_7.toInt = 1290 * x1.toInt := by omega
        rw [hx_11] at pp_9
        exact zaS hQ hx hb hr hlk (fun _ => ⟨by omega, by omega, by omega, by omega, pp_9.1, pp_9.2⟩) dX12_endBars_38
    · skip
      replace pp_4 := pp_4.2 c_6
      refine lv_bipush (v := (-2)) hx hb dX12_endBars_17 (by decide) ?_
      exact zaS hQ hx hb hr hlk (fun h9 => absurd h9 (by rw [ti_m2]; decide)) dX12_endBars_19
