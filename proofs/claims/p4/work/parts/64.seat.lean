set_option maxHeartbeats 4000000 in
set_option maxRecDepth 100000 in
theorem c_X12_seat (l : Launch) (D : va_G) (K : zK) (hM : mK K) (f : Nat → Int32) (A : Nat → Nat → Int32) (hT : mT f A) (N : Int) (a0 : Nat) (ha0 : a0 ∈ zl K) (hk0 : zk K a0 = 11) (x1 : Int32) (x2 : Int32) (x3 : Int32) (hp0 : okk N f A) (hp1 : 0 ≤ N ∧ N ≤ 600) : Met l yX12_seat (zc yX12_seat cX12_seat 8 (some .int)) (rmd 2) (va_Pc [.ref a0, .int x1, .int x2, .int x3] (zB D K (mV K f A))) (mQi D K (fun r f' A' => mT f' A' ∧ (∀ k, k ∉ ([40] : List Nat) → A' k = A k) ∧ (∀ k, k ∉ ([] : List Nat) → f' k = f k) ∧ okk (N + 1) f' A')) 0 0 (zA K) := by
  refine zin (by decide) (Nat.le_of_ble_eq_true rfl) ?_
  intro p e s m args below meth c ls Q hQ C hr hlk hP hs hl
  have C : CallFix p m c cX12_seat 8 s args zw RX12 := C
  obtain ⟨hx, hb, hml, hown, hts⟩ := id C
  have hO := hM.1
  have hS : va_S (zA K) s.heap s.heap [] := va_S.rf
  have FA : ∀ k, k ∉ ([40] : List Nat) → A k = A k := fun _ _ => rfl
  have FF : ∀ k, k ∉ ([] : List Nat) → f k = f k := fun _ _ => rfl
  have hl : lv_has ls 8 [(0, .ref a0), (1, .int x1), (2, .int x2), (3, .int x3)] := hl
  have aRc := hp0.1
  have hbud := hp0.2.2
  have hT0 := hT
  refine lv_aload_n hx hb dX12_seat_0 rfl (lv_at hl 0 rfl) ?_
  refine lv_iload_n hx hb dX12_seat_1 rfl (lv_at hl 1 rfl) ?_
  have hTo := hT
  refine zcS (zrV (As := [.int x1]) (b := a0) (rest := []) C hs hP hS (c_X12_isTable l D K hM f A hT a0 ha0 hk0 x1) m_X12_isTable wm_X12_107 (zrecv hs hP ha0 (zF_11 hk0) rfl) ⟨by decide, by decide⟩ hl.1 (Nat.le_of_ble_eq_true rfl) dX12_seat_2) (fun x_1 p_1 => ?_)
  have pp_1 : (x_1.toInt ≠ 0 → 0 ≤ x1.toInt ∧ x1.toInt ≤ 3) := p_1.2
  have g_2 := z_rng x1
  refine bz_eq (tgt := 15) hx hb rfl dX12_seat_5 (by decide) (fun c_3 => ?_) (fun c_3 => ?_)
  · skip
    clear pp_1
    refine lv_bipush (v := (-2)) hx hb dX12_seat_15 (by decide) ?_
    exact maI hQ hx hb hr hlk hP hS ⟨hT, FA, FF, ⟨(aRc.mono (by omega)), hp0.2.1, by omega, by omega⟩⟩ dX12_seat_17
  · skip
    replace pp_1 := pp_1 c_3
    refine lv_iload_n hx hb dX12_seat_8 rfl (lv_at hl 2 rfl) ?_
    have hTo := hT
    refine zcS (zrS (As := [.int x2]) (rest := []) C hs hP hS (c_X12_isSeat l D K hM f A hT x2) m_X12_isSeat wm_X12_110 ⟨by decide, by decide⟩ hl.1 (Nat.le_of_ble_eq_true rfl) dX12_seat_9) (fun x_4 p_4 => ?_)
    have pp_4 : (x_4.toInt ≠ 0 → 0 ≤ x2.toInt ∧ x2.toInt ≤ 3) ∧ (x_4.toInt = 0 → x2.toInt < 0 ∨ 3 < x2.toInt) := p_4.2
    have g_5 := z_rng x2
    refine bz_ne (tgt := 18) hx hb rfl dX12_seat_12 (by decide) (fun c_6 => ?_) (fun c_6 => ?_)
    · skip
      replace pp_4 := pp_4.1 c_6
      refine lv_sipush (v := 1290) hx hb dX12_seat_18 (by decide) ?_
      refine lv_iload_n hx hb dX12_seat_21 rfl (lv_at hl 1 rfl) ?_
      refine lv_imul hx hb dX12_seat_22 ?_
      refine lv_topi (fun x_7 ex_7 => ?_)
      refine lv_istore (lv' := [(4, .int x_7), (0, .ref a0), (1, .int x1), (2, .int x2), (3, .int x3)]) hx hb dX12_seat_23 hl (by decide) rfl (fun ls hl => ?_)
      refine lv_aload_n hx hb dX12_seat_25 rfl (lv_at hl 1 rfl) ?_
      refine mg_0 C hs hP ha0 hk0 wf_X12_8 dX12_seat_26 ?_
      have hf_8 := hO.r (j := 0) ha0 hk0 (rfl : zX 11 0 = some (40, 47730))
      refine lv_iload hx hb dX12_seat_29 (lv_at hl 0 rfl) ?_
      refine lv_iconst (v := 5) hx hb dX12_seat_31 (by decide) ?_
      refine lv_iadd hx hb dX12_seat_32 ?_
      refine lv_topi (fun x_9 ex_9 => ?_)
      obtain ⟨f_7, l_7, u_7⟩ := z_mul ex_7 ti_1290 rfl
      try replace f_7 : x_7.toInt = 1290 * x1.toInt := by omega
      clear l_7 u_7
      have hbs_11 : zRow x_7.toInt := zRow.of (t := x1.toInt) (by omega) (by omega)
      have hbl_hbs_11 := hbs_11.lin
      have hi_hr_10 : zEq x_9.toInt (x_7.toInt + 5) := by
        obtain ⟨f_9, l_9, u_9⟩ := z_add ex_9 rfl ti_5
        try replace f_9 : x_9.toInt = x_7.toInt + 5 := by omega
        clear l_9 u_9
        show x_9.toInt = (x_7.toInt + 5)
        omega
      have hl_hr_10 : (5 : Int) ≤ 5 ∧ 5 ≤ (5 : Int) := by decide
      have hid_hr_10 : (x_7.toInt + 5) = x_7.toInt + (5) := by simp only [Int.add_assoc, Int.add_sub_assoc]
      have hr_10 := z_cell (lo := 2) (hi := 8) hbs_11 hi_hr_10 hid_hr_10 hl_hr_10 (by decide)
      replace hid_hr_10 : zEq (x_7.toInt + 5) (x_7.toInt + (5)) := hid_hr_10
      have hin_12 : vp_in x_9 (zn K (zr K a0 0)) := vp_in_iff.mpr (by rw [(hf_8.2.2 (by decide))]; exact hr_10.in)
      refine mld_40 C hs hP hf_8.1 hf_8.2.1 hin_12 dX12_seat_33 ?_
      have ep_13 : x_9.toNatClampNeg = (x_7.toInt + 5).toNat := z_posE hi_hr_10
      rw [ep_13]
      clear ep_13
      refine lv_iconst (v := 1) hx hb dX12_seat_34 (by decide) ?_
      refine bi_ne (tgt := 41) hx hb rfl ti_1 dX12_seat_35 (by decide) (fun c_14 => ?_) (fun c_14 => ?_)
      · skip
        refine lv_aload_n hx hb dX12_seat_41 rfl (lv_at hl 1 rfl) ?_
        refine mg_0 C hs hP ha0 hk0 wf_X12_8 dX12_seat_42 ?_
        refine lv_iload hx hb dX12_seat_45 (lv_at hl 0 rfl) ?_
        refine lv_bipush (v := 35) hx hb dX12_seat_47 (by decide) ?_
        refine lv_iadd hx hb dX12_seat_49 ?_
        refine lv_topi (fun x_15 ex_15 => ?_)
        refine lv_iload_n hx hb dX12_seat_50 rfl (lv_at hl 3 rfl) ?_
        refine lv_iadd hx hb dX12_seat_51 ?_
        refine lv_topi (fun x_16 ex_16 => ?_)
        have hi_hr_17 : zEq x_16.toInt (x_7.toInt + x2.toInt + 35) := by
          obtain ⟨f_15, l_15, u_15⟩ := z_add ex_15 rfl ti_35
          try replace f_15 : x_15.toInt = x_7.toInt + 35 := by omega
          clear l_15 u_15
          obtain ⟨f_16, l_16, u_16⟩ := z_add ex_16 rfl rfl
          try replace f_16 : x_16.toInt = x_15.toInt + x2.toInt := by omega
          clear l_16 u_16
          show x_16.toInt = (x_7.toInt + x2.toInt + 35)
          omega
        have hl_hr_17 : 35 ≤ x2.toInt + 35 ∧ x2.toInt + 35 ≤ 38 := by
          omega
        have hid_hr_17 : (x_7.toInt + x2.toInt + 35) = x_7.toInt + (x2.toInt + 35) := by simp only [Int.add_assoc, Int.add_sub_assoc]
        have hr_17 := z_cell (lo := 35) (hi := 38) hbs_11 hi_hr_17 hid_hr_17 hl_hr_17 (by decide)
        replace hid_hr_17 : zEq (x_7.toInt + x2.toInt + 35) (x_7.toInt + (x2.toInt + 35)) := hid_hr_17
        have hin_18 : vp_in x_16 (zn K (zr K a0 0)) := vp_in_iff.mpr (by rw [(hf_8.2.2 (by decide))]; exact hr_17.in)
        refine mld_40 C hs hP hf_8.1 hf_8.2.1 hin_18 dX12_seat_52 ?_
        have ep_19 : x_16.toNatClampNeg = (x_7.toInt + x2.toInt + 35).toNat := z_posE hi_hr_17
        rw [ep_19]
        have tv_20 := rv_35 hT hr_17
        rw [ep_19] at tv_20
        clear ep_19
        refine lv_istore (lv' := [(5, .int (A 40 (x_7.toInt + x2.toInt + 35).toNat)), (4, .int x_7), (0, .ref a0), (1, .int x1), (2, .int x2), (3, .int x3)]) hx hb dX12_seat_53 hl (by decide) rfl (fun ls hl => ?_)
        refine lv_aload_n hx hb dX12_seat_55 rfl (lv_at hl 2 rfl) ?_
        refine mg_0 C hs hP ha0 hk0 wf_X12_8 dX12_seat_56 ?_
        refine lv_iload hx hb dX12_seat_59 (lv_at hl 1 rfl) ?_
        refine lv_bipush (v := 35) hx hb dX12_seat_61 (by decide) ?_
        refine lv_iadd hx hb dX12_seat_63 ?_
        refine lv_topi (fun x_21 ex_21 => ?_)
        refine lv_iload_n hx hb dX12_seat_64 rfl (lv_at hl 4 rfl) ?_
        refine lv_iadd hx hb dX12_seat_65 ?_
        refine lv_topi (fun x_22 ex_22 => ?_)
        refine lv_iload_n hx hb dX12_seat_66 rfl (lv_at hl 5 rfl) ?_
        refine bz_eq (tgt := 74) hx hb rfl dX12_seat_67 (by decide) (fun c_23 => ?_) (fun c_23 => ?_)
        · skip
          refine lv_iconst (v := 0) hx hb dX12_seat_74 (by decide) ?_
          have hTo := hT
          have hi_hr_24 : zEq x_22.toInt (x_7.toInt + x2.toInt + 35) := by
            obtain ⟨f_21, l_21, u_21⟩ := z_add ex_21 rfl ti_35
            try replace f_21 : x_21.toInt = x_7.toInt + 35 := by omega
            clear l_21 u_21
            obtain ⟨f_22, l_22, u_22⟩ := z_add ex_22 rfl rfl
            try replace f_22 : x_22.toInt = x_21.toInt + x2.toInt := by omega
            clear l_22 u_22
            show x_22.toInt = (x_7.toInt + x2.toInt + 35)
            omega
          have hl_hr_24 : 35 ≤ x2.toInt + 35 ∧ x2.toInt + 35 ≤ 38 := by
            omega
          have hid_hr_24 : (x_7.toInt + x2.toInt + 35) = x_7.toInt + (x2.toInt + 35) := by simp only [Int.add_assoc, Int.add_sub_assoc]
          have hr_24 := z_cell (lo := 35) (hi := 38) hbs_11 hi_hr_24 hid_hr_24 hl_hr_24 (by decide)
          replace hid_hr_24 : zEq (x_7.toInt + x2.toInt + 35) (x_7.toInt + (x2.toInt + 35)) := hid_hr_24
          have hin_25 : vp_in x_22 (zn K (zr K a0 0)) := vp_in_iff.mpr (by rw [(hf_8.2.2 (by decide))]; exact hr_24.in)
          refine mst_40 C hM hs hP hS hf_8.1 hT hf_8.2.1 hin_25 (tp_35 hr_24 (show 0 ≤ (0 : Int32).toInt ∧ (0 : Int32).toInt ≤ 1 from by rw [ti_0]; omega)) dX12_seat_75 (fun A_26 H locs hE_26 hT hP hS => ?_)
          have ep_27 : x_22.toNatClampNeg = (x_7.toInt + x2.toInt + 35).toNat := z_posE hi_hr_24
          rw [ep_27] at hE_26
          clear ep_27
          have FA := frA FA (frAu hE_26) (by decide)
          have hbo_28 : x_7.toInt = 1290 * x1.toInt := by omega
          have fcs_26 : fC (A 40) (A_26 40) (1290 * x1.toInt) [(35, 38)] := fC.s2 hE_26 (by omega) (by decide) (by omega)
          have aRc := aR.fw (t := x1.toInt) aRc hTo (by omega) fcs_26 (by decide) (wz_of fcs_26 (by omega) (by decide)) (by decide) (by decide) (by decide) (by decide) (by decide) (by decide) (by decide) (by decide) (by decide)
          refine lv_iload_n hx hb dX12_seat_76 rfl (lv_at hl 5 rfl) ?_
          refine bz_eq (tgt := 89) hx hb rfl dX12_seat_77 (by decide) (fun c_29 => ?_) (fun c_29 => ?_)
          · skip
            refine lv_iconst (v := 0) hx hb dX12_seat_89 (by decide) ?_
            refine lv_istore (lv' := [(6, .int 0), (5, .int (A 40 (x_7.toInt + x2.toInt + 35).toNat)), (4, .int x_7), (0, .ref a0), (1, .int x1), (2, .int x2), (3, .int x3)]) hx hb dX12_seat_90 hl (by decide) rfl (fun ls hl => ?_)
            have L_92_31 : ∀ (n_31 : Nat) (A_32 : Nat → Nat → Int32) (H : Heap) (locs : List Loc) (y_30 : Int32) (ls : Array Slot), (2147483648 - y_30.toInt).toNat < n_31 → 0 ≤ y_30.toInt → fC (A 40) (A_32 40) x_7.toInt ([(21, 21), (35, 38), (110, 169), (170, 229)] : List (Int × Int)) → (A_32 40 (x_7.toInt + 21).toNat).toInt = (A 40 (x_7.toInt + 21).toNat).toInt + y_30.toInt → rK (A_32 40) x_7.toInt → (y_30.toInt ≤ 0 ∨ y_30.toInt ≤ (A 40 (x_7.toInt + x2.toInt + 22).toNat).toInt) → (∀ k, k ∉ ([40] : List Nat) → A_32 k = A k) → mT f A_32 → va_P D vwCl (zW K (mV K f A_32)) H → va_S (zA K) s.heap H locs → lv_has ls 8 [(6, .int y_30), (5, .int (A 40 (x_7.toInt + x2.toInt + 35).toNat)), (4, .int x_7), (0, .ref a0), (1, .int x1), (2, .int x2), (3, .int x3)] → W p l e (rmd 2) s m args below meth c H locs 0 0 Q (F0 m 92 ls []) := by
              intro n_31
              induction n_31 with
              | zero => intro A_32 H locs y_30 ls hm_31; exact absurd hm_31 (Nat.not_lt_zero _)
              | succ n_31 ih_31 =>
                intro A_32 H locs y_30 ls hm_31 iv_32_0 iv_32_1 iv_32_2 iv_32_3 iv_32_4 FA_32 hT hP hS hl
                have FA := FA_32
                have tRq := hT.row hbs_11
                have tR0 := hT0.row hbs_11
                have t21 := tR0.p21
                have t43 := tR0.p43
                have hrow : rowOk (A 40) x_7.toInt N := by rw [hbo_28]; exact hp0.1 x1.toInt (by omega) (by omega)
                have hrs := hrow.1.1.1.2
                have hSg := hS_ge (C := A 40) (b := x_7.toInt) (s := x2.toInt) (by omega)
                have hmx : (A 40 (x_7.toInt + x2.toInt + 22).toNat).toInt ≤ mx (hd (A 40) x_7.toInt x2.toInt) := mx_le _
                have eHq := congrArg Int32.toInt (iv_32_1.ar hbs_11.lin.1 (lo := 22) (hi := 25) (by decide) (x_7.toInt + x2.toInt + 22) (by decide) (by omega) (by omega))
                refine lv_iload hx hb dX12_seat_92 (lv_at hl 0 rfl) ?_
                refine lv_aload_n hx hb dX12_seat_94 rfl (lv_at hl 3 rfl) ?_
                refine mg_0 C hs hP ha0 hk0 wf_X12_8 dX12_seat_95 ?_
                refine lv_iload hx hb dX12_seat_98 (lv_at hl 2 rfl) ?_
                refine lv_bipush (v := 22) hx hb dX12_seat_100 (by decide) ?_
                refine lv_iadd hx hb dX12_seat_102 ?_
                refine lv_topi (fun x_34 ex_34 => ?_)
                refine lv_iload_n hx hb dX12_seat_103 rfl (lv_at hl 5 rfl) ?_
                refine lv_iadd hx hb dX12_seat_104 ?_
                refine lv_topi (fun x_35 ex_35 => ?_)
                have hi_hr_36 : zEq x_35.toInt (x_7.toInt + x2.toInt + 22) := by
                  obtain ⟨f_34, l_34, u_34⟩ := z_add ex_34 rfl ti_22
                  try replace f_34 : x_34.toInt = x_7.toInt + 22 := by omega
                  clear l_34 u_34
                  obtain ⟨f_35, l_35, u_35⟩ := z_add ex_35 rfl rfl
                  try replace f_35 : x_35.toInt = x_34.toInt + x2.toInt := by omega
                  clear l_35 u_35
                  show x_35.toInt = (x_7.toInt + x2.toInt + 22)
                  omega
                have hl_hr_36 : 22 ≤ x2.toInt + 22 ∧ x2.toInt + 22 ≤ 25 := by
                  omega
                have hid_hr_36 : (x_7.toInt + x2.toInt + 22) = x_7.toInt + (x2.toInt + 22) := by simp only [Int.add_assoc, Int.add_sub_assoc]
                have hr_36 := z_cell (lo := 22) (hi := 25) hbs_11 hi_hr_36 hid_hr_36 hl_hr_36 (by decide)
                replace hid_hr_36 : zEq (x_7.toInt + x2.toInt + 22) (x_7.toInt + (x2.toInt + 22)) := hid_hr_36
                have hin_37 : vp_in x_35 (zn K (zr K a0 0)) := vp_in_iff.mpr (by rw [(hf_8.2.2 (by decide))]; exact hr_36.in)
                refine mld_40 C hs hP hf_8.1 hf_8.2.1 hin_37 dX12_seat_105 ?_
                have ep_38 : x_35.toNatClampNeg = (x_7.toInt + x2.toInt + 22).toNat := z_posE hi_hr_36
                rw [ep_38]
                have tv_39 := rv_22 hT hr_36
                rw [ep_38] at tv_39
                clear ep_38
                refine bi_ge (tgt := 188) hx hb rfl rfl dX12_seat_106 (by decide) (fun c_40 => ?_) (fun c_40 => ?_)
                · skip
                  refine lv_aload_n hx hb dX12_seat_188 rfl (lv_at hl 3 rfl) ?_
                  refine mg_0 C hs hP ha0 hk0 wf_X12_8 dX12_seat_189 ?_
                  refine lv_iload hx hb dX12_seat_192 (lv_at hl 2 rfl) ?_
                  refine lv_bipush (v := 22) hx hb dX12_seat_194 (by decide) ?_
                  refine lv_iadd hx hb dX12_seat_196 ?_
                  refine lv_topi (fun x_41 ex_41 => ?_)
                  refine lv_iload_n hx hb dX12_seat_197 rfl (lv_at hl 5 rfl) ?_
                  refine lv_iadd hx hb dX12_seat_198 ?_
                  refine lv_topi (fun x_42 ex_42 => ?_)
                  refine lv_iconst (v := (-1)) hx hb dX12_seat_199 (by decide) ?_
                  have hTo := hT
                  have hi_hr_43 : zEq x_42.toInt (x_7.toInt + x2.toInt + 22) := by
                    obtain ⟨f_41, l_41, u_41⟩ := z_add ex_41 rfl ti_22
                    try replace f_41 : x_41.toInt = x_7.toInt + 22 := by omega
                    clear l_41 u_41
                    obtain ⟨f_42, l_42, u_42⟩ := z_add ex_42 rfl rfl
                    try replace f_42 : x_42.toInt = x_41.toInt + x2.toInt := by omega
                    clear l_42 u_42
                    show x_42.toInt = (x_7.toInt + x2.toInt + 22)
                    omega
                  have hl_hr_43 : 22 ≤ x2.toInt + 22 ∧ x2.toInt + 22 ≤ 25 := by
                    omega
                  have hid_hr_43 : (x_7.toInt + x2.toInt + 22) = x_7.toInt + (x2.toInt + 22) := by simp only [Int.add_assoc, Int.add_sub_assoc]
                  have hr_43 := z_cell (lo := 22) (hi := 25) hbs_11 hi_hr_43 hid_hr_43 hl_hr_43 (by decide)
                  replace hid_hr_43 : zEq (x_7.toInt + x2.toInt + 22) (x_7.toInt + (x2.toInt + 22)) := hid_hr_43
                  have hin_44 : vp_in x_42 (zn K (zr K a0 0)) := vp_in_iff.mpr (by rw [(hf_8.2.2 (by decide))]; exact hr_43.in)
                  refine mst_40 C hM hs hP hS hf_8.1 hT hf_8.2.1 hin_44 (tp_22 hr_43 (show -1 ≤ ((-1) : Int32).toInt ∧ ((-1) : Int32).toInt ≤ 60 from by rw [ti_m1]; omega)) dX12_seat_200 (fun A_45 H locs hE_45 hT hP hS => ?_)
                  have ep_46 : x_42.toNatClampNeg = (x_7.toInt + x2.toInt + 22).toNat := z_posE hi_hr_43
                  rw [ep_46] at hE_45
                  clear ep_46
                  have FA := frA FA (frAu hE_45) (by decide)
                  have fzz : fC (A 40) (A_45 40) x_7.toInt ([(21, 21), (22, 25), (35, 38), (110, 169), (170, 229)] : List (Int × Int)) := fC.tr (fC.tr fC.rf iv_32_1 (by decide)) (fC.s2 (lo := 22) (hi := 25) hE_45 hbs_11.lin.1 (by decide) (by omega)) (by decide)
                  have hdu := hd_u (s := x2.toInt) hbs_11.lin.1 (by omega) hE_45
                  have e21f : (A_45 40 (x_7.toInt + 21).toNat).toInt = (A 40 (x_7.toInt + 21).toNat).toInt + y_30.toInt := by rw [hE_45, va_up_self, pk_un (by omega)]; exact iv_32_2
                  have e20f := congrArg Int32.toInt (fzz.ar hbs_11.lin.1 (lo := 20) (hi := 20) (by decide) (x_7.toInt + 20) (by decide) (by omega) (by omega))
                  have e26f := congrArg Int32.toInt (fzz.ar hbs_11.lin.1 (lo := 26) (hi := 26) (by decide) (x_7.toInt + 26) (by decide) (by omega) (by omega))
                  have e43f := congrArg Int32.toInt (fzz.ar hbs_11.lin.1 (lo := 43) (hi := 43) (by decide) (x_7.toInt + 43) (by decide) (by omega) (by omega))
                  have eqf : ∀ q : Int, 0 ≤ q → q ≤ 3 → q ≠ x2.toInt → hd (A_45 40) x_7.toInt q = hd (A 40) x_7.toInt q := fun q q0 q1 q2 => by rw [hdu.2 q q0 q1 q2]; unfold hd; rw [iv_32_1.ar hbs_11.lin.1 (lo := 22) (hi := 25) (by decide) (x_7.toInt + q + 22) (by decide) (by omega) (by omega)]
                  have hmf : mx (hd (A_45 40) x_7.toInt x2.toInt) = 0 := by rw [hdu.1, ti_m1]; exact mx_0 (by decide)
                  have hmo : mx (hd (A 40) x_7.toInt x2.toInt) = y_30.toInt := by
                    have hu : hd (A 40) x_7.toInt x2.toInt = (A 40 (x_7.toInt + x2.toInt + 22).toNat).toInt := rfl
                    unfold mx; split <;> omega
                  have rSf : rS (A_45 40) x_7.toInt := rS.gen hrow.1.1.1 (by omega) eqf (by rw [e21f, e26f, e20f, hmf, hmo]; omega) (by rw [e21f, e43f, hmf, hmo]; omega)
                  have f22 : fC (A_32 40) (A_45 40) x_7.toInt [(22, 25)] := fC.s2 hE_45 hbs_11.lin.1 (by decide) (by omega)
                  have rKf : rK (A_45 40) x_7.toInt := rK.fw iv_32_3 hbs_11.lin.1 f22 (wz_of f22 hbs_11.lin.1 (by decide)) tRq.p1.2 tRq.p21.2 (by decide) (by decide) (by decide)
                  have dLf : dL (A_45 40) x_7.toInt (A_45 40 (x_7.toInt + 26).toNat).toInt := by rw [e26f]; exact dL.fC hrow.1.1.2.1 (hT0.row hbs_11).p26.2 hbs_11.lin.1 fzz (by decide)
                  have e5f := fzz.ar hbs_11.lin.1 (lo := 5) (hi := 5) (by decide) (x_7.toInt + 5) (by decide) (by omega) (by omega)
                  have rNf : rowN (A_45 40) x_7.toInt := rowN.d2 ⟨rSf, dLf, rKf⟩ (by rw [e5f]; omega)
                  have fzm : fC (A 40) (A_45 40) (1290 * x1.toInt) ([(21, 21), (22, 25), (35, 38), (110, 169), (170, 229)] : List (Int × Int)) := fC.mv fzz (by omega)
                  have aRc : aR (A_45 40) N := aR.do (t := x1.toInt) hp0.1 hT0 (by omega) fzm (by decide) (by rw [← hbo_28]; exact rNf) (by decide) (by decide) (by decide)
                  refine lv_iload hx hb dX12_seat_201 (lv_at hl 1 rfl) ?_
                  exact maI hQ hx hb hr hlk hP hS ⟨hT, FA, FF, ⟨(aRc.mono (by omega)), (cOk.st (t := x1.toInt) hp0.2.1 (by omega) fzm (by decide) (by rw [← hbo_28, e5f]; omega)), by omega, by omega⟩⟩ dX12_seat_203
                · skip
                  refine lv_aload_n hx hb dX12_seat_109 rfl (lv_at hl 3 rfl) ?_
                  refine mg_0 C hs hP ha0 hk0 wf_X12_8 dX12_seat_110 ?_
                  refine lv_iload hx hb dX12_seat_113 (lv_at hl 2 rfl) ?_
                  refine lv_sipush (v := 230) hx hb dX12_seat_115 (by decide) ?_
                  refine lv_iadd hx hb dX12_seat_118 ?_
                  refine lv_topi (fun x_47 ex_47 => ?_)
                  refine lv_bipush (v := 60) hx hb dX12_seat_119 (by decide) ?_
                  refine lv_iload_n hx hb dX12_seat_121 rfl (lv_at hl 5 rfl) ?_
                  refine lv_imul hx hb dX12_seat_122 ?_
                  refine lv_topi (fun x_48 ex_48 => ?_)
                  refine lv_iadd hx hb dX12_seat_123 ?_
                  refine lv_topi (fun x_49 ex_49 => ?_)
                  refine lv_iload hx hb dX12_seat_124 (lv_at hl 0 rfl) ?_
                  refine lv_iadd hx hb dX12_seat_126 ?_
                  refine lv_topi (fun x_50 ex_50 => ?_)
                  have hi_hr_51 : zEq x_50.toInt (x_7.toInt + 60 * x2.toInt + y_30.toInt + 230) := by
                    obtain ⟨f_47, l_47, u_47⟩ := z_add ex_47 rfl ti_230
                    try replace f_47 : x_47.toInt = x_7.toInt + 230 := by omega
                    clear l_47 u_47
                    obtain ⟨f_48, l_48, u_48⟩ := z_mul ex_48 ti_60 rfl
                    try replace f_48 : x_48.toInt = 60 * x2.toInt := by omega
                    clear l_48 u_48
                    obtain ⟨f_49, l_49, u_49⟩ := z_add ex_49 rfl rfl
                    try replace f_49 : x_49.toInt = x_47.toInt + x_48.toInt := by omega
                    clear l_49 u_49
                    have g_52 := z_rng y_30
                    obtain ⟨f_50, l_50, u_50⟩ := z_add ex_50 rfl rfl
                    try replace f_50 : x_50.toInt = x_49.toInt + y_30.toInt := by omega
                    clear l_50 u_50
                    show x_50.toInt = (x_7.toInt + 60 * x2.toInt + y_30.toInt + 230)
                    omega
                  have hl_hr_51 : 230 ≤ 60 * x2.toInt + y_30.toInt + 230 ∧ 60 * x2.toInt + y_30.toInt + 230 ≤ 469 := by
                    have g_53 := z_rng y_30
                    omega
                  have hid_hr_51 : (x_7.toInt + 60 * x2.toInt + y_30.toInt + 230) = x_7.toInt + (60 * x2.toInt + y_30.toInt + 230) := by simp only [Int.add_assoc, Int.add_sub_assoc]
                  have hr_51 := z_cell (lo := 170) (hi := 469) hbs_11 hi_hr_51 hid_hr_51 hl_hr_51 (by decide)
                  replace hid_hr_51 : zEq (x_7.toInt + 60 * x2.toInt + y_30.toInt + 230) (x_7.toInt + (60 * x2.toInt + y_30.toInt + 230)) := hid_hr_51
                  have hin_54 : vp_in x_50 (zn K (zr K a0 0)) := vp_in_iff.mpr (by rw [(hf_8.2.2 (by decide))]; exact hr_51.in)
                  refine mld_40 C hs hP hf_8.1 hf_8.2.1 hin_54 dX12_seat_127 ?_
                  have ep_55 : x_50.toNatClampNeg = (x_7.toInt + 60 * x2.toInt + y_30.toInt + 230).toNat := z_posE hi_hr_51
                  rw [ep_55]
                  have tv_56 := rv_170 hT hr_51
                  rw [ep_55] at tv_56
                  clear ep_55
                  refine lv_istore (lv' := [(7, .int (A_32 40 (x_7.toInt + 60 * x2.toInt + y_30.toInt + 230).toNat)), (6, .int y_30), (5, .int (A 40 (x_7.toInt + x2.toInt + 35).toNat)), (4, .int x_7), (0, .ref a0), (1, .int x1), (2, .int x2), (3, .int x3)]) hx hb dX12_seat_128 hl (by decide) rfl (fun ls hl => ?_)
                  refine lv_aload_n hx hb dX12_seat_130 rfl (lv_at hl 4 rfl) ?_
                  refine mg_0 C hs hP ha0 hk0 wf_X12_8 dX12_seat_131 ?_
                  refine lv_iload hx hb dX12_seat_134 (lv_at hl 3 rfl) ?_
                  refine lv_sipush (v := 170) hx hb dX12_seat_136 (by decide) ?_
                  refine lv_iadd hx hb dX12_seat_139 ?_
                  refine lv_topi (fun x_57 ex_57 => ?_)
                  refine lv_aload_n hx hb dX12_seat_140 rfl (lv_at hl 4 rfl) ?_
                  refine mg_0 C hs hP ha0 hk0 wf_X12_8 dX12_seat_141 ?_
                  refine lv_iload hx hb dX12_seat_144 (lv_at hl 3 rfl) ?_
                  refine lv_bipush (v := 21) hx hb dX12_seat_146 (by decide) ?_
                  refine lv_iadd hx hb dX12_seat_148 ?_
                  refine lv_topi (fun x_58 ex_58 => ?_)
                  have hi_hr_59 : zEq x_58.toInt (x_7.toInt + 21) := by
                    obtain ⟨f_58, l_58, u_58⟩ := z_add ex_58 rfl ti_21
                    try replace f_58 : x_58.toInt = x_7.toInt + 21 := by omega
                    clear l_58 u_58
                    show x_58.toInt = (x_7.toInt + 21)
                    omega
                  have hl_hr_59 : (21 : Int) ≤ 21 ∧ 21 ≤ (21 : Int) := by decide
                  have hid_hr_59 : (x_7.toInt + 21) = x_7.toInt + (21) := by simp only [Int.add_assoc, Int.add_sub_assoc]
                  have hr_59 := z_cell (lo := 20) (hi := 21) hbs_11 hi_hr_59 hid_hr_59 hl_hr_59 (by decide)
                  replace hid_hr_59 : zEq (x_7.toInt + 21) (x_7.toInt + (21)) := hid_hr_59
                  have hin_60 : vp_in x_58 (zn K (zr K a0 0)) := vp_in_iff.mpr (by rw [(hf_8.2.2 (by decide))]; exact hr_59.in)
                  refine mld_40 C hs hP hf_8.1 hf_8.2.1 hin_60 dX12_seat_149 ?_
                  have ep_61 : x_58.toNatClampNeg = (x_7.toInt + 21).toNat := z_posE hi_hr_59
                  rw [ep_61]
                  have tv_62 := rv_20 hT hr_59
                  rw [ep_61] at tv_62
                  clear ep_61
                  refine lv_iadd hx hb dX12_seat_150 ?_
                  refine lv_topi (fun x_63 ex_63 => ?_)
                  refine lv_iload hx hb dX12_seat_151 (lv_at hl 0 rfl) ?_
                  have hTo := hT
                  have hi_hr_64 : zEq x_63.toInt (x_7.toInt + (A_32 40 (x_7.toInt + 21).toNat).toInt + 170) := by
                    obtain ⟨f_57, l_57, u_57⟩ := z_add ex_57 rfl ti_170
                    try replace f_57 : x_57.toInt = x_7.toInt + 170 := by omega
                    clear l_57 u_57
                    have g_65 := z_rng (A_32 40 (x_7.toInt + 21).toNat)
                    obtain ⟨f_63, l_63, u_63⟩ := z_add ex_63 rfl rfl
                    try replace f_63 : x_63.toInt = x_57.toInt + (A_32 40 (x_7.toInt + 21).toNat).toInt := by omega
                    clear l_63 u_63
                    show x_63.toInt = (x_7.toInt + (A_32 40 (x_7.toInt + 21).toNat).toInt + 170)
                    omega
                  have hl_hr_64 : 170 ≤ (A_32 40 (x_7.toInt + 21).toNat).toInt + 170 ∧ (A_32 40 (x_7.toInt + 21).toNat).toInt + 170 ≤ 229 := by
                    have g_66 := z_rng (A_32 40 (x_7.toInt + 21).toNat)
                    omega
                  have hid_hr_64 : (x_7.toInt + (A_32 40 (x_7.toInt + 21).toNat).toInt + 170) = x_7.toInt + ((A_32 40 (x_7.toInt + 21).toNat).toInt + 170) := by simp only [Int.add_assoc, Int.add_sub_assoc]
                  have hr_64 := z_cell (lo := 170) (hi := 469) hbs_11 hi_hr_64 hid_hr_64 hl_hr_64 (by decide)
                  replace hid_hr_64 : zEq (x_7.toInt + (A_32 40 (x_7.toInt + 21).toNat).toInt + 170) (x_7.toInt + ((A_32 40 (x_7.toInt + 21).toNat).toInt + 170)) := hid_hr_64
                  have hin_67 : vp_in x_63 (zn K (zr K a0 0)) := vp_in_iff.mpr (by rw [(hf_8.2.2 (by decide))]; exact hr_64.in)
                  have g_69 := z_rng (A_32 40 (x_7.toInt + 60 * x2.toInt + y_30.toInt + 230).toNat)
                  refine mst_40 C hM hs hP hS hf_8.1 hT hf_8.2.1 hin_67 (tp_170 hr_64 (show 0 ≤ (A_32 40 (x_7.toInt + 60 * x2.toInt + y_30.toInt + 230).toNat).toInt ∧ (A_32 40 (x_7.toInt + 60 * x2.toInt + y_30.toInt + 230).toNat).toInt ≤ 59 from by omega)) dX12_seat_153 (fun A_68 H locs hE_68 hT hP hS => ?_)
                  have ep_70 : x_63.toNatClampNeg = (x_7.toInt + (A_32 40 (x_7.toInt + 21).toNat).toInt + 170).toNat := z_posE hi_hr_64
                  rw [ep_70] at hE_68
                  clear ep_70
                  have FA := frA FA (frAu hE_68) (by decide)
                  refine lv_aload_n hx hb dX12_seat_154 rfl (lv_at hl 4 rfl) ?_
                  refine mg_0 C hs hP ha0 hk0 wf_X12_8 dX12_seat_155 ?_
                  refine lv_iload hx hb dX12_seat_158 (lv_at hl 3 rfl) ?_
                  refine lv_bipush (v := 21) hx hb dX12_seat_160 (by decide) ?_
                  refine lv_iadd hx hb dX12_seat_162 ?_
                  refine lv_topi (fun x_71 ex_71 => ?_)
                  refine lv_dup2_11 hx hb dX12_seat_163 rfl rfl ?_
                  have hi_hr_72 : zEq x_71.toInt (x_7.toInt + 21) := by
                    obtain ⟨f_71, l_71, u_71⟩ := z_add ex_71 rfl ti_21
                    try replace f_71 : x_71.toInt = x_7.toInt + 21 := by omega
                    clear l_71 u_71
                    show x_71.toInt = (x_7.toInt + 21)
                    omega
                  have hl_hr_72 : (21 : Int) ≤ 21 ∧ 21 ≤ (21 : Int) := by decide
                  have hid_hr_72 : (x_7.toInt + 21) = x_7.toInt + (21) := by simp only [Int.add_assoc, Int.add_sub_assoc]
                  have hr_72 := z_cell (lo := 20) (hi := 21) hbs_11 hi_hr_72 hid_hr_72 hl_hr_72 (by decide)
                  replace hid_hr_72 : zEq (x_7.toInt + 21) (x_7.toInt + (21)) := hid_hr_72
                  have hin_73 : vp_in x_71 (zn K (zr K a0 0)) := vp_in_iff.mpr (by rw [(hf_8.2.2 (by decide))]; exact hr_72.in)
                  refine mld_40 C hs hP hf_8.1 hf_8.2.1 hin_73 dX12_seat_164 ?_
                  have ep_74 : x_71.toNatClampNeg = (x_7.toInt + 21).toNat := z_posE hi_hr_72
                  rw [ep_74]
                  obtain ⟨f_71, l_71, u_71⟩ := z_add ex_71 rfl ti_21
                  try replace f_71 : x_71.toInt = x_7.toInt + 21 := by omega
                  clear l_71 u_71
                  obtain ⟨f_57, l_57, u_57⟩ := z_add ex_57 rfl ti_170
                  try replace f_57 : x_57.toInt = x_7.toInt + 170 := by omega
                  clear l_57 u_57
                  have g_76 := z_rng (A_32 40 (x_7.toInt + 21).toNat)
                  obtain ⟨f_63, l_63, u_63⟩ := z_add ex_63 rfl rfl
                  try replace f_63 : x_63.toInt = x_57.toInt + (A_32 40 (x_7.toInt + 21).toNat).toInt := by omega
                  clear l_63 u_63
                  have hn_75 : (x_7.toInt + 21).toNat ≠ (x_7.toInt + (A_32 40 (x_7.toInt + 21).toNat).toInt + 170).toNat := zNe (by omega) (by omega) (by omega)
                  have ev_77 : A_68 40 (x_7.toInt + 21).toNat = A_32 40 (x_7.toInt + 21).toNat := by rw [hE_68, va_up_self, pk_un hn_75]
                  clear hn_75
                  rw [ev_77]
                  clear ep_74
                  refine lv_iconst (v := 1) hx hb dX12_seat_165 (by decide) ?_
                  refine lv_iadd hx hb dX12_seat_166 ?_
                  refine lv_topi (fun x_78 ex_78 => ?_)
                  have hTo := hT
                  have hin_79 : vp_in x_71 (zn K (zr K a0 0)) := vp_in_iff.mpr (by rw [(hf_8.2.2 (by decide))]; exact hr_72.in)
                  obtain ⟨f_78, l_78, u_78⟩ := z_add ex_78 rfl ti_1
                  try replace f_78 : x_78.toInt = (A_32 40 (x_7.toInt + 21).toNat).toInt + 1 := by omega
                  clear l_78 u_78
                  refine mst_40 C hM hs hP hS hf_8.1 hT hf_8.2.1 hin_79 (tp_20 hr_72 (show 0 ≤ x_78.toInt ∧ x_78.toInt ≤ 60 from by omega)) dX12_seat_167 (fun A_80 H locs hE_80 hT hP hS => ?_)
                  have ep_81 : x_71.toNatClampNeg = (x_7.toInt + 21).toNat := z_posE hi_hr_72
                  rw [ep_81] at hE_80
                  clear ep_81
                  have FA := frA FA (frAu hE_80) (by decide)
                  refine lv_aload_n hx hb dX12_seat_168 rfl (lv_at hl 4 rfl) ?_
                  refine mg_0 C hs hP ha0 hk0 wf_X12_8 dX12_seat_169 ?_
                  refine lv_iload hx hb dX12_seat_172 (lv_at hl 3 rfl) ?_
                  refine lv_bipush (v := 110) hx hb dX12_seat_174 (by decide) ?_
                  refine lv_iadd hx hb dX12_seat_176 ?_
                  refine lv_topi (fun x_82 ex_82 => ?_)
                  refine lv_iload hx hb dX12_seat_177 (lv_at hl 0 rfl) ?_
                  refine lv_iadd hx hb dX12_seat_179 ?_
                  refine lv_topi (fun x_83 ex_83 => ?_)
                  refine lv_iconst (v := 0) hx hb dX12_seat_180 (by decide) ?_
                  have hTo := hT
                  have hi_hr_84 : zEq x_83.toInt (x_7.toInt + (A_32 40 (x_7.toInt + 60 * x2.toInt + y_30.toInt + 230).toNat).toInt + 110) := by
                    obtain ⟨f_82, l_82, u_82⟩ := z_add ex_82 rfl ti_110
                    try replace f_82 : x_82.toInt = x_7.toInt + 110 := by omega
                    clear l_82 u_82
                    obtain ⟨f_83, l_83, u_83⟩ := z_add ex_83 rfl rfl
                    try replace f_83 : x_83.toInt = x_82.toInt + (A_32 40 (x_7.toInt + 60 * x2.toInt + y_30.toInt + 230).toNat).toInt := by omega
                    clear l_83 u_83
                    show x_83.toInt = (x_7.toInt + (A_32 40 (x_7.toInt + 60 * x2.toInt + y_30.toInt + 230).toNat).toInt + 110)
                    omega
                  have hl_hr_84 : 110 ≤ (A_32 40 (x_7.toInt + 60 * x2.toInt + y_30.toInt + 230).toNat).toInt + 110 ∧ (A_32 40 (x_7.toInt + 60 * x2.toInt + y_30.toInt + 230).toNat).toInt + 110 ≤ 169 := by
                    omega
                  have hid_hr_84 : (x_7.toInt + (A_32 40 (x_7.toInt + 60 * x2.toInt + y_30.toInt + 230).toNat).toInt + 110) = x_7.toInt + ((A_32 40 (x_7.toInt + 60 * x2.toInt + y_30.toInt + 230).toNat).toInt + 110) := by simp only [Int.add_assoc, Int.add_sub_assoc]
                  have hr_84 := z_cell (lo := 45) (hi := 169) hbs_11 hi_hr_84 hid_hr_84 hl_hr_84 (by decide)
                  replace hid_hr_84 : zEq (x_7.toInt + (A_32 40 (x_7.toInt + 60 * x2.toInt + y_30.toInt + 230).toNat).toInt + 110) (x_7.toInt + ((A_32 40 (x_7.toInt + 60 * x2.toInt + y_30.toInt + 230).toNat).toInt + 110)) := hid_hr_84
                  have hin_85 : vp_in x_83 (zn K (zr K a0 0)) := vp_in_iff.mpr (by rw [(hf_8.2.2 (by decide))]; exact hr_84.in)
                  refine mst_40 C hM hs hP hS hf_8.1 hT hf_8.2.1 hin_85 (tp_45 hr_84) dX12_seat_181 (fun A_86 H locs hE_86 hT hP hS => ?_)
                  have ep_87 : x_83.toNatClampNeg = (x_7.toInt + (A_32 40 (x_7.toInt + 60 * x2.toInt + y_30.toInt + 230).toNat).toInt + 110).toNat := z_posE hi_hr_84
                  rw [ep_87] at hE_86
                  clear ep_87
                  have FA := frA FA (frAu hE_86) (by decide)
                  obtain ⟨x_88, ex_88⟩ : ∃ y : Int32, y = y_30 + 1 := ⟨_, rfl⟩
                  refine lv_iinc (v := x_88) (lv' := [(6, .int x_88), (7, .int (A_32 40 (x_7.toInt + 60 * x2.toInt + y_30.toInt + 230).toNat)), (5, .int (A 40 (x_7.toInt + x2.toInt + 35).toNat)), (4, .int x_7), (0, .ref a0), (1, .int x1), (2, .int x2), (3, .int x3)]) hx hb dX12_seat_182 hl (k := 1) rfl (by rw [ex_88]; rfl) (by decide) rfl (fun ls hl => ?_)
                  refine lv_goto (tgt := 92) hx hb dX12_seat_185 (by decide) ?_
                  have g_89 := z_rng y_30
                  obtain ⟨f_88, l_88, u_88⟩ := z_add ex_88 rfl ti_1
                  try replace f_88 : x_88.toInt = y_30.toInt + 1 := by omega
                  clear l_88 u_88
                  have g_90 := z_rng (A_32 40 (x_7.toInt + x2.toInt + 22).toNat)
                  have fs_91 : fC (A 40) (A_68 40) x_7.toInt ([(21, 21), (35, 38), (110, 169), (170, 229)] : List (Int × Int)) := fC.tr iv_32_1 (fC.s2 (lo := 170) (hi := 229) hE_68 hbs_11.lin.1 (by decide) (by omega)) (by decide)
                  have fs_92 : fC (A 40) (A_80 40) x_7.toInt ([(21, 21), (35, 38), (110, 169), (170, 229)] : List (Int × Int)) := fC.tr fs_91 (fC.s2 (lo := 21) (hi := 21) hE_80 hbs_11.lin.1 (by decide) (by omega)) (by decide)
                  have fs_93 : fC (A 40) (A_86 40) x_7.toInt ([(21, 21), (35, 38), (110, 169), (170, 229)] : List (Int × Int)) := fC.tr fs_92 (fC.s2 (lo := 110) (hi := 169) hE_86 hbs_11.lin.1 (by decide) (by omega)) (by decide)
                  have eu_94 : A_86 40 = upd (upd (upd (A_32 40) ((x_7.toInt + (A_32 40 (x_7.toInt + 21).toNat).toInt + 170).toNat) (A_32 40 (x_7.toInt + 60 * x2.toInt + y_30.toInt + 230).toNat)) ((x_7.toInt + 21).toNat) x_78) ((x_7.toInt + (A_32 40 (x_7.toInt + 60 * x2.toInt + y_30.toInt + 230).toNat).toInt + 110).toNat) 0 := by rw [hE_86, va_up_self, hE_80, va_up_self, hE_68, va_up_self]
                  exact ih_31 A_86 _ _ x_88 _ (by omega) (by omega) fs_93 (by rw [eu_94, pk_un (by omega), pk_us]; omega) (rK.app (c := A_32 40 (x_7.toInt + 60 * x2.toInt + y_30.toInt + 230).toNat) iv_32_3 tRq (by omega) (by omega) hbs_11.lin.1 eu_94 (by omega)) (Or.inr (by omega)) FA hT hP hS (lv_sub hl [0, 2, 3, 4, 5, 6, 7] rfl)
            have g_95 := z_rng (A 40 (x_7.toInt + 5).toNat)
            have g_96 := z_rng x3
            have g_97 := z_rng x_1
            have g_98 := z_rng x_4
            have tR0 := hT0.row hbs_11
            have t21 := tR0.p21
            have t43 := tR0.p43
            have hrow : rowOk (A 40) x_7.toInt N := by rw [hbo_28]; exact hp0.1 x1.toInt (by omega) (by omega)
            have hrs := hrow.1.1.1.2
            have hSg := hS_ge (C := A 40) (b := x_7.toInt) (s := x2.toInt) (by omega)
            have hmx : (A 40 (x_7.toInt + x2.toInt + 22).toNat).toInt ≤ mx (hd (A 40) x_7.toInt x2.toInt) := mx_le _
            have f35 : fC (A 40) (A_26 40) x_7.toInt [(35, 38)] := fC.s2 hE_26 hbs_11.lin.1 (by decide) (by omega)
            exact L_92_31 _ A_26 _ _ 0 _ (Nat.lt_succ_self _) (by (try simp only [ti_0]); omega) (fC.tr fC.rf f35 (by decide)) (by rw [f35.ar hbs_11.lin.1 (lo := 21) (hi := 21) (by decide) (x_7.toInt + 21) (by decide) (by omega) (by omega), ti_0]; omega) (rK.fw hrow.1.1.2.2 hbs_11.lin.1 f35 (wz_of f35 hbs_11.lin.1 (by decide)) tR0.p1.2 tR0.p21.2 (by decide) (by decide) (by decide)) (Or.inl (by rw [ti_0]; decide)) FA hT hP hS (lv_sub hl [0, 1, 2, 3, 4, 5, 6] rfl)
          · skip
            refine lv_iload hx hb dX12_seat_80 (lv_at hl 0 rfl) ?_
            refine lv_iconst (v := 1) hx hb dX12_seat_82 (by decide) ?_
            refine bi_ne (tgt := 89) hx hb rfl ti_1 dX12_seat_83 (by decide) (fun c_99 => ?_) (fun c_99 => ?_)
            · skip
              refine lv_iconst (v := 0) hx hb dX12_seat_89 (by decide) ?_
              refine lv_istore (lv' := [(6, .int 0), (5, .int (A 40 (x_7.toInt + x2.toInt + 35).toNat)), (4, .int x_7), (0, .ref a0), (1, .int x1), (2, .int x2), (3, .int x3)]) hx hb dX12_seat_90 hl (by decide) rfl (fun ls hl => ?_)
              have L_92_101 : ∀ (n_101 : Nat) (A_102 : Nat → Nat → Int32) (H : Heap) (locs : List Loc) (y_100 : Int32) (ls : Array Slot), (2147483648 - y_100.toInt).toNat < n_101 → 0 ≤ y_100.toInt → fC (A 40) (A_102 40) x_7.toInt ([(21, 21), (35, 38), (110, 169), (170, 229)] : List (Int × Int)) → (A_102 40 (x_7.toInt + 21).toNat).toInt = (A 40 (x_7.toInt + 21).toNat).toInt + y_100.toInt → rK (A_102 40) x_7.toInt → (y_100.toInt ≤ 0 ∨ y_100.toInt ≤ (A 40 (x_7.toInt + x2.toInt + 22).toNat).toInt) → (∀ k, k ∉ ([40] : List Nat) → A_102 k = A k) → mT f A_102 → va_P D vwCl (zW K (mV K f A_102)) H → va_S (zA K) s.heap H locs → lv_has ls 8 [(6, .int y_100), (5, .int (A 40 (x_7.toInt + x2.toInt + 35).toNat)), (4, .int x_7), (0, .ref a0), (1, .int x1), (2, .int x2), (3, .int x3)] → W p l e (rmd 2) s m args below meth c H locs 0 0 Q (F0 m 92 ls []) := by
                intro n_101
                induction n_101 with
                | zero => intro A_102 H locs y_100 ls hm_101; exact absurd hm_101 (Nat.not_lt_zero _)
                | succ n_101 ih_101 =>
                  intro A_102 H locs y_100 ls hm_101 iv_102_0 iv_102_1 iv_102_2 iv_102_3 iv_102_4 FA_102 hT hP hS hl
                  have FA := FA_102
                  have tRq := hT.row hbs_11
                  have tR0 := hT0.row hbs_11
                  have t21 := tR0.p21
                  have t43 := tR0.p43
                  have hrow : rowOk (A 40) x_7.toInt N := by rw [hbo_28]; exact hp0.1 x1.toInt (by omega) (by omega)
                  have hrs := hrow.1.1.1.2
                  have hSg := hS_ge (C := A 40) (b := x_7.toInt) (s := x2.toInt) (by omega)
                  have hmx : (A 40 (x_7.toInt + x2.toInt + 22).toNat).toInt ≤ mx (hd (A 40) x_7.toInt x2.toInt) := mx_le _
                  have eHq := congrArg Int32.toInt (iv_102_1.ar hbs_11.lin.1 (lo := 22) (hi := 25) (by decide) (x_7.toInt + x2.toInt + 22) (by decide) (by omega) (by omega))
                  refine lv_iload hx hb dX12_seat_92 (lv_at hl 0 rfl) ?_
                  refine lv_aload_n hx hb dX12_seat_94 rfl (lv_at hl 3 rfl) ?_
                  refine mg_0 C hs hP ha0 hk0 wf_X12_8 dX12_seat_95 ?_
                  refine lv_iload hx hb dX12_seat_98 (lv_at hl 2 rfl) ?_
                  refine lv_bipush (v := 22) hx hb dX12_seat_100 (by decide) ?_
                  refine lv_iadd hx hb dX12_seat_102 ?_
                  refine lv_topi (fun x_104 ex_104 => ?_)
                  refine lv_iload_n hx hb dX12_seat_103 rfl (lv_at hl 5 rfl) ?_
                  refine lv_iadd hx hb dX12_seat_104 ?_
                  refine lv_topi (fun x_105 ex_105 => ?_)
                  have hi_hr_106 : zEq x_105.toInt (x_7.toInt + x2.toInt + 22) := by
                    obtain ⟨f_104, l_104, u_104⟩ := z_add ex_104 rfl ti_22
                    try replace f_104 : x_104.toInt = x_7.toInt + 22 := by omega
                    clear l_104 u_104
                    obtain ⟨f_105, l_105, u_105⟩ := z_add ex_105 rfl rfl
                    try replace f_105 : x_105.toInt = x_104.toInt + x2.toInt := by omega
                    clear l_105 u_105
                    show x_105.toInt = (x_7.toInt + x2.toInt + 22)
                    omega
                  have hl_hr_106 : 22 ≤ x2.toInt + 22 ∧ x2.toInt + 22 ≤ 25 := by
                    omega
                  have hid_hr_106 : (x_7.toInt + x2.toInt + 22) = x_7.toInt + (x2.toInt + 22) := by simp only [Int.add_assoc, Int.add_sub_assoc]
                  have hr_106 := z_cell (lo := 22) (hi := 25) hbs_11 hi_hr_106 hid_hr_106 hl_hr_106 (by decide)
                  replace hid_hr_106 : zEq (x_7.toInt + x2.toInt + 22) (x_7.toInt + (x2.toInt + 22)) := hid_hr_106
                  have hin_107 : vp_in x_105 (zn K (zr K a0 0)) := vp_in_iff.mpr (by rw [(hf_8.2.2 (by decide))]; exact hr_106.in)
                  refine mld_40 C hs hP hf_8.1 hf_8.2.1 hin_107 dX12_seat_105 ?_
                  have ep_108 : x_105.toNatClampNeg = (x_7.toInt + x2.toInt + 22).toNat := z_posE hi_hr_106
                  rw [ep_108]
                  have tv_109 := rv_22 hT hr_106
                  rw [ep_108] at tv_109
                  clear ep_108
                  refine bi_ge (tgt := 188) hx hb rfl rfl dX12_seat_106 (by decide) (fun c_110 => ?_) (fun c_110 => ?_)
                  · skip
                    refine lv_aload_n hx hb dX12_seat_188 rfl (lv_at hl 3 rfl) ?_
                    refine mg_0 C hs hP ha0 hk0 wf_X12_8 dX12_seat_189 ?_
                    refine lv_iload hx hb dX12_seat_192 (lv_at hl 2 rfl) ?_
                    refine lv_bipush (v := 22) hx hb dX12_seat_194 (by decide) ?_
                    refine lv_iadd hx hb dX12_seat_196 ?_
                    refine lv_topi (fun x_111 ex_111 => ?_)
                    refine lv_iload_n hx hb dX12_seat_197 rfl (lv_at hl 5 rfl) ?_
                    refine lv_iadd hx hb dX12_seat_198 ?_
                    refine lv_topi (fun x_112 ex_112 => ?_)
                    refine lv_iconst (v := (-1)) hx hb dX12_seat_199 (by decide) ?_
                    have hTo := hT
                    have hi_hr_113 : zEq x_112.toInt (x_7.toInt + x2.toInt + 22) := by
                      obtain ⟨f_111, l_111, u_111⟩ := z_add ex_111 rfl ti_22
                      try replace f_111 : x_111.toInt = x_7.toInt + 22 := by omega
                      clear l_111 u_111
                      obtain ⟨f_112, l_112, u_112⟩ := z_add ex_112 rfl rfl
                      try replace f_112 : x_112.toInt = x_111.toInt + x2.toInt := by omega
                      clear l_112 u_112
                      show x_112.toInt = (x_7.toInt + x2.toInt + 22)
                      omega
                    have hl_hr_113 : 22 ≤ x2.toInt + 22 ∧ x2.toInt + 22 ≤ 25 := by
                      omega
                    have hid_hr_113 : (x_7.toInt + x2.toInt + 22) = x_7.toInt + (x2.toInt + 22) := by simp only [Int.add_assoc, Int.add_sub_assoc]
                    have hr_113 := z_cell (lo := 22) (hi := 25) hbs_11 hi_hr_113 hid_hr_113 hl_hr_113 (by decide)
                    replace hid_hr_113 : zEq (x_7.toInt + x2.toInt + 22) (x_7.toInt + (x2.toInt + 22)) := hid_hr_113
                    have hin_114 : vp_in x_112 (zn K (zr K a0 0)) := vp_in_iff.mpr (by rw [(hf_8.2.2 (by decide))]; exact hr_113.in)
                    refine mst_40 C hM hs hP hS hf_8.1 hT hf_8.2.1 hin_114 (tp_22 hr_113 (show -1 ≤ ((-1) : Int32).toInt ∧ ((-1) : Int32).toInt ≤ 60 from by rw [ti_m1]; omega)) dX12_seat_200 (fun A_115 H locs hE_115 hT hP hS => ?_)
                    have ep_116 : x_112.toNatClampNeg = (x_7.toInt + x2.toInt + 22).toNat := z_posE hi_hr_113
                    rw [ep_116] at hE_115
                    clear ep_116
                    have FA := frA FA (frAu hE_115) (by decide)
                    have fzz : fC (A 40) (A_115 40) x_7.toInt ([(21, 21), (22, 25), (35, 38), (110, 169), (170, 229)] : List (Int × Int)) := fC.tr (fC.tr fC.rf iv_102_1 (by decide)) (fC.s2 (lo := 22) (hi := 25) hE_115 hbs_11.lin.1 (by decide) (by omega)) (by decide)
                    have hdu := hd_u (s := x2.toInt) hbs_11.lin.1 (by omega) hE_115
                    have e21f : (A_115 40 (x_7.toInt + 21).toNat).toInt = (A 40 (x_7.toInt + 21).toNat).toInt + y_100.toInt := by rw [hE_115, va_up_self, pk_un (by omega)]; exact iv_102_2
                    have e20f := congrArg Int32.toInt (fzz.ar hbs_11.lin.1 (lo := 20) (hi := 20) (by decide) (x_7.toInt + 20) (by decide) (by omega) (by omega))
                    have e26f := congrArg Int32.toInt (fzz.ar hbs_11.lin.1 (lo := 26) (hi := 26) (by decide) (x_7.toInt + 26) (by decide) (by omega) (by omega))
                    have e43f := congrArg Int32.toInt (fzz.ar hbs_11.lin.1 (lo := 43) (hi := 43) (by decide) (x_7.toInt + 43) (by decide) (by omega) (by omega))
                    have eqf : ∀ q : Int, 0 ≤ q → q ≤ 3 → q ≠ x2.toInt → hd (A_115 40) x_7.toInt q = hd (A 40) x_7.toInt q := fun q q0 q1 q2 => by rw [hdu.2 q q0 q1 q2]; unfold hd; rw [iv_102_1.ar hbs_11.lin.1 (lo := 22) (hi := 25) (by decide) (x_7.toInt + q + 22) (by decide) (by omega) (by omega)]
                    have hmf : mx (hd (A_115 40) x_7.toInt x2.toInt) = 0 := by rw [hdu.1, ti_m1]; exact mx_0 (by decide)
                    have hmo : mx (hd (A 40) x_7.toInt x2.toInt) = y_100.toInt := by
                      have hu : hd (A 40) x_7.toInt x2.toInt = (A 40 (x_7.toInt + x2.toInt + 22).toNat).toInt := rfl
                      unfold mx; split <;> omega
                    have rSf : rS (A_115 40) x_7.toInt := rS.gen hrow.1.1.1 (by omega) eqf (by rw [e21f, e26f, e20f, hmf, hmo]; omega) (by rw [e21f, e43f, hmf, hmo]; omega)
                    have f22 : fC (A_102 40) (A_115 40) x_7.toInt [(22, 25)] := fC.s2 hE_115 hbs_11.lin.1 (by decide) (by omega)
                    have rKf : rK (A_115 40) x_7.toInt := rK.fw iv_102_3 hbs_11.lin.1 f22 (wz_of f22 hbs_11.lin.1 (by decide)) tRq.p1.2 tRq.p21.2 (by decide) (by decide) (by decide)
                    have dLf : dL (A_115 40) x_7.toInt (A_115 40 (x_7.toInt + 26).toNat).toInt := by rw [e26f]; exact dL.fC hrow.1.1.2.1 (hT0.row hbs_11).p26.2 hbs_11.lin.1 fzz (by decide)
                    have e5f := fzz.ar hbs_11.lin.1 (lo := 5) (hi := 5) (by decide) (x_7.toInt + 5) (by decide) (by omega) (by omega)
                    have rNf : rowN (A_115 40) x_7.toInt := rowN.d2 ⟨rSf, dLf, rKf⟩ (by rw [e5f]; omega)
                    have fzm : fC (A 40) (A_115 40) (1290 * x1.toInt) ([(21, 21), (22, 25), (35, 38), (110, 169), (170, 229)] : List (Int × Int)) := fC.mv fzz (by omega)
                    have aRc : aR (A_115 40) N := aR.do (t := x1.toInt) hp0.1 hT0 (by omega) fzm (by decide) (by rw [← hbo_28]; exact rNf) (by decide) (by decide) (by decide)
                    refine lv_iload hx hb dX12_seat_201 (lv_at hl 1 rfl) ?_
                    exact maI hQ hx hb hr hlk hP hS ⟨hT, FA, FF, ⟨(aRc.mono (by omega)), (cOk.st (t := x1.toInt) hp0.2.1 (by omega) fzm (by decide) (by rw [← hbo_28, e5f]; omega)), by omega, by omega⟩⟩ dX12_seat_203
                  · skip
                    refine lv_aload_n hx hb dX12_seat_109 rfl (lv_at hl 3 rfl) ?_
                    refine mg_0 C hs hP ha0 hk0 wf_X12_8 dX12_seat_110 ?_
                    refine lv_iload hx hb dX12_seat_113 (lv_at hl 2 rfl) ?_
                    refine lv_sipush (v := 230) hx hb dX12_seat_115 (by decide) ?_
                    refine lv_iadd hx hb dX12_seat_118 ?_
                    refine lv_topi (fun x_117 ex_117 => ?_)
                    refine lv_bipush (v := 60) hx hb dX12_seat_119 (by decide) ?_
                    refine lv_iload_n hx hb dX12_seat_121 rfl (lv_at hl 5 rfl) ?_
                    refine lv_imul hx hb dX12_seat_122 ?_
                    refine lv_topi (fun x_118 ex_118 => ?_)
                    refine lv_iadd hx hb dX12_seat_123 ?_
                    refine lv_topi (fun x_119 ex_119 => ?_)
                    refine lv_iload hx hb dX12_seat_124 (lv_at hl 0 rfl) ?_
                    refine lv_iadd hx hb dX12_seat_126 ?_
                    refine lv_topi (fun x_120 ex_120 => ?_)
                    have hi_hr_121 : zEq x_120.toInt (x_7.toInt + 60 * x2.toInt + y_100.toInt + 230) := by
                      obtain ⟨f_117, l_117, u_117⟩ := z_add ex_117 rfl ti_230
                      try replace f_117 : x_117.toInt = x_7.toInt + 230 := by omega
                      clear l_117 u_117
                      obtain ⟨f_118, l_118, u_118⟩ := z_mul ex_118 ti_60 rfl
                      try replace f_118 : x_118.toInt = 60 * x2.toInt := by omega
                      clear l_118 u_118
                      obtain ⟨f_119, l_119, u_119⟩ := z_add ex_119 rfl rfl
                      try replace f_119 : x_119.toInt = x_117.toInt + x_118.toInt := by omega
                      clear l_119 u_119
                      have g_122 := z_rng y_100
                      obtain ⟨f_120, l_120, u_120⟩ := z_add ex_120 rfl rfl
                      try replace f_120 : x_120.toInt = x_119.toInt + y_100.toInt := by omega
                      clear l_120 u_120
                      show x_120.toInt = (x_7.toInt + 60 * x2.toInt + y_100.toInt + 230)
                      omega
                    have hl_hr_121 : 230 ≤ 60 * x2.toInt + y_100.toInt + 230 ∧ 60 * x2.toInt + y_100.toInt + 230 ≤ 469 := by
                      have g_123 := z_rng y_100
                      omega
                    have hid_hr_121 : (x_7.toInt + 60 * x2.toInt + y_100.toInt + 230) = x_7.toInt + (60 * x2.toInt + y_100.toInt + 230) := by simp only [Int.add_assoc, Int.add_sub_assoc]
                    have hr_121 := z_cell (lo := 170) (hi := 469) hbs_11 hi_hr_121 hid_hr_121 hl_hr_121 (by decide)
                    replace hid_hr_121 : zEq (x_7.toInt + 60 * x2.toInt + y_100.toInt + 230) (x_7.toInt + (60 * x2.toInt + y_100.toInt + 230)) := hid_hr_121
                    have hin_124 : vp_in x_120 (zn K (zr K a0 0)) := vp_in_iff.mpr (by rw [(hf_8.2.2 (by decide))]; exact hr_121.in)
                    refine mld_40 C hs hP hf_8.1 hf_8.2.1 hin_124 dX12_seat_127 ?_
                    have ep_125 : x_120.toNatClampNeg = (x_7.toInt + 60 * x2.toInt + y_100.toInt + 230).toNat := z_posE hi_hr_121
                    rw [ep_125]
                    have tv_126 := rv_170 hT hr_121
                    rw [ep_125] at tv_126
                    clear ep_125
                    refine lv_istore (lv' := [(7, .int (A_102 40 (x_7.toInt + 60 * x2.toInt + y_100.toInt + 230).toNat)), (6, .int y_100), (5, .int (A 40 (x_7.toInt + x2.toInt + 35).toNat)), (4, .int x_7), (0, .ref a0), (1, .int x1), (2, .int x2), (3, .int x3)]) hx hb dX12_seat_128 hl (by decide) rfl (fun ls hl => ?_)
                    refine lv_aload_n hx hb dX12_seat_130 rfl (lv_at hl 4 rfl) ?_
                    refine mg_0 C hs hP ha0 hk0 wf_X12_8 dX12_seat_131 ?_
                    refine lv_iload hx hb dX12_seat_134 (lv_at hl 3 rfl) ?_
                    refine lv_sipush (v := 170) hx hb dX12_seat_136 (by decide) ?_
                    refine lv_iadd hx hb dX12_seat_139 ?_
                    refine lv_topi (fun x_127 ex_127 => ?_)
                    refine lv_aload_n hx hb dX12_seat_140 rfl (lv_at hl 4 rfl) ?_
                    refine mg_0 C hs hP ha0 hk0 wf_X12_8 dX12_seat_141 ?_
                    refine lv_iload hx hb dX12_seat_144 (lv_at hl 3 rfl) ?_
                    refine lv_bipush (v := 21) hx hb dX12_seat_146 (by decide) ?_
                    refine lv_iadd hx hb dX12_seat_148 ?_
                    refine lv_topi (fun x_128 ex_128 => ?_)
                    have hi_hr_129 : zEq x_128.toInt (x_7.toInt + 21) := by
                      obtain ⟨f_128, l_128, u_128⟩ := z_add ex_128 rfl ti_21
                      try replace f_128 : x_128.toInt = x_7.toInt + 21 := by omega
                      clear l_128 u_128
                      show x_128.toInt = (x_7.toInt + 21)
                      omega
                    have hl_hr_129 : (21 : Int) ≤ 21 ∧ 21 ≤ (21 : Int) := by decide
                    have hid_hr_129 : (x_7.toInt + 21) = x_7.toInt + (21) := by simp only [Int.add_assoc, Int.add_sub_assoc]
                    have hr_129 := z_cell (lo := 20) (hi := 21) hbs_11 hi_hr_129 hid_hr_129 hl_hr_129 (by decide)
                    replace hid_hr_129 : zEq (x_7.toInt + 21) (x_7.toInt + (21)) := hid_hr_129
                    have hin_130 : vp_in x_128 (zn K (zr K a0 0)) := vp_in_iff.mpr (by rw [(hf_8.2.2 (by decide))]; exact hr_129.in)
                    refine mld_40 C hs hP hf_8.1 hf_8.2.1 hin_130 dX12_seat_149 ?_
                    have ep_131 : x_128.toNatClampNeg = (x_7.toInt + 21).toNat := z_posE hi_hr_129
                    rw [ep_131]
                    have tv_132 := rv_20 hT hr_129
                    rw [ep_131] at tv_132
                    clear ep_131
                    refine lv_iadd hx hb dX12_seat_150 ?_
                    refine lv_topi (fun x_133 ex_133 => ?_)
                    refine lv_iload hx hb dX12_seat_151 (lv_at hl 0 rfl) ?_
                    have hTo := hT
                    have hi_hr_134 : zEq x_133.toInt (x_7.toInt + (A_102 40 (x_7.toInt + 21).toNat).toInt + 170) := by
                      obtain ⟨f_127, l_127, u_127⟩ := z_add ex_127 rfl ti_170
                      try replace f_127 : x_127.toInt = x_7.toInt + 170 := by omega
                      clear l_127 u_127
                      have g_135 := z_rng (A_102 40 (x_7.toInt + 21).toNat)
                      obtain ⟨f_133, l_133, u_133⟩ := z_add ex_133 rfl rfl
                      try replace f_133 : x_133.toInt = x_127.toInt + (A_102 40 (x_7.toInt + 21).toNat).toInt := by omega
                      clear l_133 u_133
                      show x_133.toInt = (x_7.toInt + (A_102 40 (x_7.toInt + 21).toNat).toInt + 170)
                      omega
                    have hl_hr_134 : 170 ≤ (A_102 40 (x_7.toInt + 21).toNat).toInt + 170 ∧ (A_102 40 (x_7.toInt + 21).toNat).toInt + 170 ≤ 229 := by
                      have g_136 := z_rng (A_102 40 (x_7.toInt + 21).toNat)
                      omega
                    have hid_hr_134 : (x_7.toInt + (A_102 40 (x_7.toInt + 21).toNat).toInt + 170) = x_7.toInt + ((A_102 40 (x_7.toInt + 21).toNat).toInt + 170) := by simp only [Int.add_assoc, Int.add_sub_assoc]
                    have hr_134 := z_cell (lo := 170) (hi := 469) hbs_11 hi_hr_134 hid_hr_134 hl_hr_134 (by decide)
                    replace hid_hr_134 : zEq (x_7.toInt + (A_102 40 (x_7.toInt + 21).toNat).toInt + 170) (x_7.toInt + ((A_102 40 (x_7.toInt + 21).toNat).toInt + 170)) := hid_hr_134
                    have hin_137 : vp_in x_133 (zn K (zr K a0 0)) := vp_in_iff.mpr (by rw [(hf_8.2.2 (by decide))]; exact hr_134.in)
                    have g_139 := z_rng (A_102 40 (x_7.toInt + 60 * x2.toInt + y_100.toInt + 230).toNat)
                    refine mst_40 C hM hs hP hS hf_8.1 hT hf_8.2.1 hin_137 (tp_170 hr_134 (show 0 ≤ (A_102 40 (x_7.toInt + 60 * x2.toInt + y_100.toInt + 230).toNat).toInt ∧ (A_102 40 (x_7.toInt + 60 * x2.toInt + y_100.toInt + 230).toNat).toInt ≤ 59 from by omega)) dX12_seat_153 (fun A_138 H locs hE_138 hT hP hS => ?_)
                    have ep_140 : x_133.toNatClampNeg = (x_7.toInt + (A_102 40 (x_7.toInt + 21).toNat).toInt + 170).toNat := z_posE hi_hr_134
                    rw [ep_140] at hE_138
                    clear ep_140
                    have FA := frA FA (frAu hE_138) (by decide)
                    refine lv_aload_n hx hb dX12_seat_154 rfl (lv_at hl 4 rfl) ?_
                    refine mg_0 C hs hP ha0 hk0 wf_X12_8 dX12_seat_155 ?_
                    refine lv_iload hx hb dX12_seat_158 (lv_at hl 3 rfl) ?_
                    refine lv_bipush (v := 21) hx hb dX12_seat_160 (by decide) ?_
                    refine lv_iadd hx hb dX12_seat_162 ?_
                    refine lv_topi (fun x_141 ex_141 => ?_)
                    refine lv_dup2_11 hx hb dX12_seat_163 rfl rfl ?_
                    have hi_hr_142 : zEq x_141.toInt (x_7.toInt + 21) := by
                      obtain ⟨f_141, l_141, u_141⟩ := z_add ex_141 rfl ti_21
                      try replace f_141 : x_141.toInt = x_7.toInt + 21 := by omega
                      clear l_141 u_141
                      show x_141.toInt = (x_7.toInt + 21)
                      omega
                    have hl_hr_142 : (21 : Int) ≤ 21 ∧ 21 ≤ (21 : Int) := by decide
                    have hid_hr_142 : (x_7.toInt + 21) = x_7.toInt + (21) := by simp only [Int.add_assoc, Int.add_sub_assoc]
                    have hr_142 := z_cell (lo := 20) (hi := 21) hbs_11 hi_hr_142 hid_hr_142 hl_hr_142 (by decide)
                    replace hid_hr_142 : zEq (x_7.toInt + 21) (x_7.toInt + (21)) := hid_hr_142
                    have hin_143 : vp_in x_141 (zn K (zr K a0 0)) := vp_in_iff.mpr (by rw [(hf_8.2.2 (by decide))]; exact hr_142.in)
                    refine mld_40 C hs hP hf_8.1 hf_8.2.1 hin_143 dX12_seat_164 ?_
                    have ep_144 : x_141.toNatClampNeg = (x_7.toInt + 21).toNat := z_posE hi_hr_142
                    rw [ep_144]
                    obtain ⟨f_141, l_141, u_141⟩ := z_add ex_141 rfl ti_21
                    try replace f_141 : x_141.toInt = x_7.toInt + 21 := by omega
                    clear l_141 u_141
                    obtain ⟨f_127, l_127, u_127⟩ := z_add ex_127 rfl ti_170
                    try replace f_127 : x_127.toInt = x_7.toInt + 170 := by omega
                    clear l_127 u_127
                    have g_146 := z_rng (A_102 40 (x_7.toInt + 21).toNat)
                    obtain ⟨f_133, l_133, u_133⟩ := z_add ex_133 rfl rfl
                    try replace f_133 : x_133.toInt = x_127.toInt + (A_102 40 (x_7.toInt + 21).toNat).toInt := by omega
                    clear l_133 u_133
                    have hn_145 : (x_7.toInt + 21).toNat ≠ (x_7.toInt + (A_102 40 (x_7.toInt + 21).toNat).toInt + 170).toNat := zNe (by omega) (by omega) (by omega)
                    have ev_147 : A_138 40 (x_7.toInt + 21).toNat = A_102 40 (x_7.toInt + 21).toNat := by rw [hE_138, va_up_self, pk_un hn_145]
                    clear hn_145
                    rw [ev_147]
                    clear ep_144
                    refine lv_iconst (v := 1) hx hb dX12_seat_165 (by decide) ?_
                    refine lv_iadd hx hb dX12_seat_166 ?_
                    refine lv_topi (fun x_148 ex_148 => ?_)
                    have hTo := hT
                    have hin_149 : vp_in x_141 (zn K (zr K a0 0)) := vp_in_iff.mpr (by rw [(hf_8.2.2 (by decide))]; exact hr_142.in)
                    obtain ⟨f_148, l_148, u_148⟩ := z_add ex_148 rfl ti_1
                    try replace f_148 : x_148.toInt = (A_102 40 (x_7.toInt + 21).toNat).toInt + 1 := by omega
                    clear l_148 u_148
                    refine mst_40 C hM hs hP hS hf_8.1 hT hf_8.2.1 hin_149 (tp_20 hr_142 (show 0 ≤ x_148.toInt ∧ x_148.toInt ≤ 60 from by omega)) dX12_seat_167 (fun A_150 H locs hE_150 hT hP hS => ?_)
                    have ep_151 : x_141.toNatClampNeg = (x_7.toInt + 21).toNat := z_posE hi_hr_142
                    rw [ep_151] at hE_150
                    clear ep_151
                    have FA := frA FA (frAu hE_150) (by decide)
                    refine lv_aload_n hx hb dX12_seat_168 rfl (lv_at hl 4 rfl) ?_
                    refine mg_0 C hs hP ha0 hk0 wf_X12_8 dX12_seat_169 ?_
                    refine lv_iload hx hb dX12_seat_172 (lv_at hl 3 rfl) ?_
                    refine lv_bipush (v := 110) hx hb dX12_seat_174 (by decide) ?_
                    refine lv_iadd hx hb dX12_seat_176 ?_
                    refine lv_topi (fun x_152 ex_152 => ?_)
                    refine lv_iload hx hb dX12_seat_177 (lv_at hl 0 rfl) ?_
                    refine lv_iadd hx hb dX12_seat_179 ?_
                    refine lv_topi (fun x_153 ex_153 => ?_)
                    refine lv_iconst (v := 0) hx hb dX12_seat_180 (by decide) ?_
                    have hTo := hT
                    have hi_hr_154 : zEq x_153.toInt (x_7.toInt + (A_102 40 (x_7.toInt + 60 * x2.toInt + y_100.toInt + 230).toNat).toInt + 110) := by
                      obtain ⟨f_152, l_152, u_152⟩ := z_add ex_152 rfl ti_110
                      try replace f_152 : x_152.toInt = x_7.toInt + 110 := by omega
                      clear l_152 u_152
                      obtain ⟨f_153, l_153, u_153⟩ := z_add ex_153 rfl rfl
                      try replace f_153 : x_153.toInt = x_152.toInt + (A_102 40 (x_7.toInt + 60 * x2.toInt + y_100.toInt + 230).toNat).toInt := by omega
                      clear l_153 u_153
                      show x_153.toInt = (x_7.toInt + (A_102 40 (x_7.toInt + 60 * x2.toInt + y_100.toInt + 230).toNat).toInt + 110)
                      omega
                    have hl_hr_154 : 110 ≤ (A_102 40 (x_7.toInt + 60 * x2.toInt + y_100.toInt + 230).toNat).toInt + 110 ∧ (A_102 40 (x_7.toInt + 60 * x2.toInt + y_100.toInt + 230).toNat).toInt + 110 ≤ 169 := by
                      omega
                    have hid_hr_154 : (x_7.toInt + (A_102 40 (x_7.toInt + 60 * x2.toInt + y_100.toInt + 230).toNat).toInt + 110) = x_7.toInt + ((A_102 40 (x_7.toInt + 60 * x2.toInt + y_100.toInt + 230).toNat).toInt + 110) := by simp only [Int.add_assoc, Int.add_sub_assoc]
                    have hr_154 := z_cell (lo := 45) (hi := 169) hbs_11 hi_hr_154 hid_hr_154 hl_hr_154 (by decide)
                    replace hid_hr_154 : zEq (x_7.toInt + (A_102 40 (x_7.toInt + 60 * x2.toInt + y_100.toInt + 230).toNat).toInt + 110) (x_7.toInt + ((A_102 40 (x_7.toInt + 60 * x2.toInt + y_100.toInt + 230).toNat).toInt + 110)) := hid_hr_154
                    have hin_155 : vp_in x_153 (zn K (zr K a0 0)) := vp_in_iff.mpr (by rw [(hf_8.2.2 (by decide))]; exact hr_154.in)
                    refine mst_40 C hM hs hP hS hf_8.1 hT hf_8.2.1 hin_155 (tp_45 hr_154) dX12_seat_181 (fun A_156 H locs hE_156 hT hP hS => ?_)
                    have ep_157 : x_153.toNatClampNeg = (x_7.toInt + (A_102 40 (x_7.toInt + 60 * x2.toInt + y_100.toInt + 230).toNat).toInt + 110).toNat := z_posE hi_hr_154
                    rw [ep_157] at hE_156
                    clear ep_157
                    have FA := frA FA (frAu hE_156) (by decide)
                    obtain ⟨x_158, ex_158⟩ : ∃ y : Int32, y = y_100 + 1 := ⟨_, rfl⟩
                    refine lv_iinc (v := x_158) (lv' := [(6, .int x_158), (7, .int (A_102 40 (x_7.toInt + 60 * x2.toInt + y_100.toInt + 230).toNat)), (5, .int (A 40 (x_7.toInt + x2.toInt + 35).toNat)), (4, .int x_7), (0, .ref a0), (1, .int x1), (2, .int x2), (3, .int x3)]) hx hb dX12_seat_182 hl (k := 1) rfl (by rw [ex_158]; rfl) (by decide) rfl (fun ls hl => ?_)
                    refine lv_goto (tgt := 92) hx hb dX12_seat_185 (by decide) ?_
                    have g_159 := z_rng y_100
                    obtain ⟨f_158, l_158, u_158⟩ := z_add ex_158 rfl ti_1
                    try replace f_158 : x_158.toInt = y_100.toInt + 1 := by omega
                    clear l_158 u_158
                    have g_160 := z_rng (A_102 40 (x_7.toInt + x2.toInt + 22).toNat)
                    have fs_161 : fC (A 40) (A_138 40) x_7.toInt ([(21, 21), (35, 38), (110, 169), (170, 229)] : List (Int × Int)) := fC.tr iv_102_1 (fC.s2 (lo := 170) (hi := 229) hE_138 hbs_11.lin.1 (by decide) (by omega)) (by decide)
                    have fs_162 : fC (A 40) (A_150 40) x_7.toInt ([(21, 21), (35, 38), (110, 169), (170, 229)] : List (Int × Int)) := fC.tr fs_161 (fC.s2 (lo := 21) (hi := 21) hE_150 hbs_11.lin.1 (by decide) (by omega)) (by decide)
                    have fs_163 : fC (A 40) (A_156 40) x_7.toInt ([(21, 21), (35, 38), (110, 169), (170, 229)] : List (Int × Int)) := fC.tr fs_162 (fC.s2 (lo := 110) (hi := 169) hE_156 hbs_11.lin.1 (by decide) (by omega)) (by decide)
                    have eu_164 : A_156 40 = upd (upd (upd (A_102 40) ((x_7.toInt + (A_102 40 (x_7.toInt + 21).toNat).toInt + 170).toNat) (A_102 40 (x_7.toInt + 60 * x2.toInt + y_100.toInt + 230).toNat)) ((x_7.toInt + 21).toNat) x_148) ((x_7.toInt + (A_102 40 (x_7.toInt + 60 * x2.toInt + y_100.toInt + 230).toNat).toInt + 110).toNat) 0 := by rw [hE_156, va_up_self, hE_150, va_up_self, hE_138, va_up_self]
                    exact ih_101 A_156 _ _ x_158 _ (by omega) (by omega) fs_163 (by rw [eu_164, pk_un (by omega), pk_us]; omega) (rK.app (c := A_102 40 (x_7.toInt + 60 * x2.toInt + y_100.toInt + 230).toNat) iv_102_3 tRq (by omega) (by omega) hbs_11.lin.1 eu_164 (by omega)) (Or.inr (by omega)) FA hT hP hS (lv_sub hl [0, 2, 3, 4, 5, 6, 7] rfl)
              have g_165 := z_rng (A 40 (x_7.toInt + 5).toNat)
              have g_166 := z_rng (A 40 (x_7.toInt + x2.toInt + 35).toNat)
              have g_167 := z_rng x3
              have g_168 := z_rng x_1
              have g_169 := z_rng x_4
              have tR0 := hT0.row hbs_11
              have t21 := tR0.p21
              have t43 := tR0.p43
              have hrow : rowOk (A 40) x_7.toInt N := by rw [hbo_28]; exact hp0.1 x1.toInt (by omega) (by omega)
              have hrs := hrow.1.1.1.2
              have hSg := hS_ge (C := A 40) (b := x_7.toInt) (s := x2.toInt) (by omega)
              have hmx : (A 40 (x_7.toInt + x2.toInt + 22).toNat).toInt ≤ mx (hd (A 40) x_7.toInt x2.toInt) := mx_le _
              have f35 : fC (A 40) (A_26 40) x_7.toInt [(35, 38)] := fC.s2 hE_26 hbs_11.lin.1 (by decide) (by omega)
              exact L_92_101 _ A_26 _ _ 0 _ (Nat.lt_succ_self _) (by (try simp only [ti_0]); omega) (fC.tr fC.rf f35 (by decide)) (by rw [f35.ar hbs_11.lin.1 (lo := 21) (hi := 21) (by decide) (x_7.toInt + 21) (by decide) (by omega) (by omega), ti_0]; omega) (rK.fw hrow.1.1.2.2 hbs_11.lin.1 f35 (wz_of f35 hbs_11.lin.1 (by decide)) tR0.p1.2 tR0.p21.2 (by decide) (by decide) (by decide)) (Or.inl (by rw [ti_0]; decide)) FA hT hP hS (lv_sub hl [0, 1, 2, 3, 4, 5, 6] rfl)
            · skip
              refine lv_iload hx hb dX12_seat_86 (lv_at hl 0 rfl) ?_
              exact maI hQ hx hb hr hlk hP hS ⟨hT, FA, FF, ⟨(aRc.mono (by omega)), (by exact cOk.fw (t := x1.toInt) hp0.2.1 (by omega) fcs_26 (by decide) (by decide) (by decide)), by omega, by omega⟩⟩ dX12_seat_88
        · skip
          refine lv_iconst (v := 1) hx hb dX12_seat_70 (by decide) ?_
          refine lv_goto (tgt := 75) hx hb dX12_seat_71 (by decide) ?_
          have hTo := hT
          have hi_hr_170 : zEq x_22.toInt (x_7.toInt + x2.toInt + 35) := by
            obtain ⟨f_21, l_21, u_21⟩ := z_add ex_21 rfl ti_35
            try replace f_21 : x_21.toInt = x_7.toInt + 35 := by omega
            clear l_21 u_21
            obtain ⟨f_22, l_22, u_22⟩ := z_add ex_22 rfl rfl
            try replace f_22 : x_22.toInt = x_21.toInt + x2.toInt := by omega
            clear l_22 u_22
            show x_22.toInt = (x_7.toInt + x2.toInt + 35)
            omega
          have hl_hr_170 : 35 ≤ x2.toInt + 35 ∧ x2.toInt + 35 ≤ 38 := by
            omega
          have hid_hr_170 : (x_7.toInt + x2.toInt + 35) = x_7.toInt + (x2.toInt + 35) := by simp only [Int.add_assoc, Int.add_sub_assoc]
          have hr_170 := z_cell (lo := 35) (hi := 38) hbs_11 hi_hr_170 hid_hr_170 hl_hr_170 (by decide)
          replace hid_hr_170 : zEq (x_7.toInt + x2.toInt + 35) (x_7.toInt + (x2.toInt + 35)) := hid_hr_170
          have hin_171 : vp_in x_22 (zn K (zr K a0 0)) := vp_in_iff.mpr (by rw [(hf_8.2.2 (by decide))]; exact hr_170.in)
          refine mst_40 C hM hs hP hS hf_8.1 hT hf_8.2.1 hin_171 (tp_35 hr_170 (show 0 ≤ (1 : Int32).toInt ∧ (1 : Int32).toInt ≤ 1 from by rw [ti_1]; omega)) dX12_seat_75 (fun A_172 H locs hE_172 hT hP hS => ?_)
          have ep_173 : x_22.toNatClampNeg = (x_7.toInt + x2.toInt + 35).toNat := z_posE hi_hr_170
          rw [ep_173] at hE_172
          clear ep_173
          have FA := frA FA (frAu hE_172) (by decide)
          have hbo_174 : x_7.toInt = 1290 * x1.toInt := by omega
          have fcs_172 : fC (A 40) (A_172 40) (1290 * x1.toInt) [(35, 38)] := fC.s2 hE_172 (by omega) (by decide) (by omega)
          have aRc := aR.fw (t := x1.toInt) aRc hTo (by omega) fcs_172 (by decide) (wz_of fcs_172 (by omega) (by decide)) (by decide) (by decide) (by decide) (by decide) (by decide) (by decide) (by decide) (by decide) (by decide)
          refine lv_iload_n hx hb dX12_seat_76 rfl (lv_at hl 5 rfl) ?_
          refine bz_eq (tgt := 89) hx hb rfl dX12_seat_77 (by decide) (fun c_175 => ?_) (fun c_175 => ?_)
          · skip
            refine lv_iconst (v := 0) hx hb dX12_seat_89 (by decide) ?_
            refine lv_istore (lv' := [(6, .int 0), (5, .int (A 40 (x_7.toInt + x2.toInt + 35).toNat)), (4, .int x_7), (0, .ref a0), (1, .int x1), (2, .int x2), (3, .int x3)]) hx hb dX12_seat_90 hl (by decide) rfl (fun ls hl => ?_)
            have L_92_177 : ∀ (n_177 : Nat) (A_178 : Nat → Nat → Int32) (H : Heap) (locs : List Loc) (y_176 : Int32) (ls : Array Slot), (2147483648 - y_176.toInt).toNat < n_177 → 0 ≤ y_176.toInt → fC (A 40) (A_178 40) x_7.toInt ([(21, 21), (35, 38), (110, 169), (170, 229)] : List (Int × Int)) → (A_178 40 (x_7.toInt + 21).toNat).toInt = (A 40 (x_7.toInt + 21).toNat).toInt + y_176.toInt → rK (A_178 40) x_7.toInt → (y_176.toInt ≤ 0 ∨ y_176.toInt ≤ (A 40 (x_7.toInt + x2.toInt + 22).toNat).toInt) → (∀ k, k ∉ ([40] : List Nat) → A_178 k = A k) → mT f A_178 → va_P D vwCl (zW K (mV K f A_178)) H → va_S (zA K) s.heap H locs → lv_has ls 8 [(6, .int y_176), (5, .int (A 40 (x_7.toInt + x2.toInt + 35).toNat)), (4, .int x_7), (0, .ref a0), (1, .int x1), (2, .int x2), (3, .int x3)] → W p l e (rmd 2) s m args below meth c H locs 0 0 Q (F0 m 92 ls []) := by
              intro n_177
              induction n_177 with
              | zero => intro A_178 H locs y_176 ls hm_177; exact absurd hm_177 (Nat.not_lt_zero _)
              | succ n_177 ih_177 =>
                intro A_178 H locs y_176 ls hm_177 iv_178_0 iv_178_1 iv_178_2 iv_178_3 iv_178_4 FA_178 hT hP hS hl
                have FA := FA_178
                have tRq := hT.row hbs_11
                have tR0 := hT0.row hbs_11
                have t21 := tR0.p21
                have t43 := tR0.p43
                have hrow : rowOk (A 40) x_7.toInt N := by rw [hbo_174]; exact hp0.1 x1.toInt (by omega) (by omega)
                have hrs := hrow.1.1.1.2
                have hSg := hS_ge (C := A 40) (b := x_7.toInt) (s := x2.toInt) (by omega)
                have hmx : (A 40 (x_7.toInt + x2.toInt + 22).toNat).toInt ≤ mx (hd (A 40) x_7.toInt x2.toInt) := mx_le _
                have eHq := congrArg Int32.toInt (iv_178_1.ar hbs_11.lin.1 (lo := 22) (hi := 25) (by decide) (x_7.toInt + x2.toInt + 22) (by decide) (by omega) (by omega))
                refine lv_iload hx hb dX12_seat_92 (lv_at hl 0 rfl) ?_
                refine lv_aload_n hx hb dX12_seat_94 rfl (lv_at hl 3 rfl) ?_
                refine mg_0 C hs hP ha0 hk0 wf_X12_8 dX12_seat_95 ?_
                refine lv_iload hx hb dX12_seat_98 (lv_at hl 2 rfl) ?_
                refine lv_bipush (v := 22) hx hb dX12_seat_100 (by decide) ?_
                refine lv_iadd hx hb dX12_seat_102 ?_
                refine lv_topi (fun x_180 ex_180 => ?_)
                refine lv_iload_n hx hb dX12_seat_103 rfl (lv_at hl 5 rfl) ?_
                refine lv_iadd hx hb dX12_seat_104 ?_
                refine lv_topi (fun x_181 ex_181 => ?_)
                have hi_hr_182 : zEq x_181.toInt (x_7.toInt + x2.toInt + 22) := by
                  obtain ⟨f_180, l_180, u_180⟩ := z_add ex_180 rfl ti_22
                  try replace f_180 : x_180.toInt = x_7.toInt + 22 := by omega
                  clear l_180 u_180
                  obtain ⟨f_181, l_181, u_181⟩ := z_add ex_181 rfl rfl
                  try replace f_181 : x_181.toInt = x_180.toInt + x2.toInt := by omega
                  clear l_181 u_181
                  show x_181.toInt = (x_7.toInt + x2.toInt + 22)
                  omega
                have hl_hr_182 : 22 ≤ x2.toInt + 22 ∧ x2.toInt + 22 ≤ 25 := by
                  omega
                have hid_hr_182 : (x_7.toInt + x2.toInt + 22) = x_7.toInt + (x2.toInt + 22) := by simp only [Int.add_assoc, Int.add_sub_assoc]
                have hr_182 := z_cell (lo := 22) (hi := 25) hbs_11 hi_hr_182 hid_hr_182 hl_hr_182 (by decide)
                replace hid_hr_182 : zEq (x_7.toInt + x2.toInt + 22) (x_7.toInt + (x2.toInt + 22)) := hid_hr_182
                have hin_183 : vp_in x_181 (zn K (zr K a0 0)) := vp_in_iff.mpr (by rw [(hf_8.2.2 (by decide))]; exact hr_182.in)
                refine mld_40 C hs hP hf_8.1 hf_8.2.1 hin_183 dX12_seat_105 ?_
                have ep_184 : x_181.toNatClampNeg = (x_7.toInt + x2.toInt + 22).toNat := z_posE hi_hr_182
                rw [ep_184]
                have tv_185 := rv_22 hT hr_182
                rw [ep_184] at tv_185
                clear ep_184
                refine bi_ge (tgt := 188) hx hb rfl rfl dX12_seat_106 (by decide) (fun c_186 => ?_) (fun c_186 => ?_)
                · skip
                  refine lv_aload_n hx hb dX12_seat_188 rfl (lv_at hl 3 rfl) ?_
                  refine mg_0 C hs hP ha0 hk0 wf_X12_8 dX12_seat_189 ?_
                  refine lv_iload hx hb dX12_seat_192 (lv_at hl 2 rfl) ?_
                  refine lv_bipush (v := 22) hx hb dX12_seat_194 (by decide) ?_
                  refine lv_iadd hx hb dX12_seat_196 ?_
                  refine lv_topi (fun x_187 ex_187 => ?_)
                  refine lv_iload_n hx hb dX12_seat_197 rfl (lv_at hl 5 rfl) ?_
                  refine lv_iadd hx hb dX12_seat_198 ?_
                  refine lv_topi (fun x_188 ex_188 => ?_)
                  refine lv_iconst (v := (-1)) hx hb dX12_seat_199 (by decide) ?_
                  have hTo := hT
                  have hi_hr_189 : zEq x_188.toInt (x_7.toInt + x2.toInt + 22) := by
                    obtain ⟨f_187, l_187, u_187⟩ := z_add ex_187 rfl ti_22
                    try replace f_187 : x_187.toInt = x_7.toInt + 22 := by omega
                    clear l_187 u_187
                    obtain ⟨f_188, l_188, u_188⟩ := z_add ex_188 rfl rfl
                    try replace f_188 : x_188.toInt = x_187.toInt + x2.toInt := by omega
                    clear l_188 u_188
                    show x_188.toInt = (x_7.toInt + x2.toInt + 22)
                    omega
                  have hl_hr_189 : 22 ≤ x2.toInt + 22 ∧ x2.toInt + 22 ≤ 25 := by
                    omega
                  have hid_hr_189 : (x_7.toInt + x2.toInt + 22) = x_7.toInt + (x2.toInt + 22) := by simp only [Int.add_assoc, Int.add_sub_assoc]
                  have hr_189 := z_cell (lo := 22) (hi := 25) hbs_11 hi_hr_189 hid_hr_189 hl_hr_189 (by decide)
                  replace hid_hr_189 : zEq (x_7.toInt + x2.toInt + 22) (x_7.toInt + (x2.toInt + 22)) := hid_hr_189
                  have hin_190 : vp_in x_188 (zn K (zr K a0 0)) := vp_in_iff.mpr (by rw [(hf_8.2.2 (by decide))]; exact hr_189.in)
                  refine mst_40 C hM hs hP hS hf_8.1 hT hf_8.2.1 hin_190 (tp_22 hr_189 (show -1 ≤ ((-1) : Int32).toInt ∧ ((-1) : Int32).toInt ≤ 60 from by rw [ti_m1]; omega)) dX12_seat_200 (fun A_191 H locs hE_191 hT hP hS => ?_)
                  have ep_192 : x_188.toNatClampNeg = (x_7.toInt + x2.toInt + 22).toNat := z_posE hi_hr_189
                  rw [ep_192] at hE_191
                  clear ep_192
                  have FA := frA FA (frAu hE_191) (by decide)
                  have fzz : fC (A 40) (A_191 40) x_7.toInt ([(21, 21), (22, 25), (35, 38), (110, 169), (170, 229)] : List (Int × Int)) := fC.tr (fC.tr fC.rf iv_178_1 (by decide)) (fC.s2 (lo := 22) (hi := 25) hE_191 hbs_11.lin.1 (by decide) (by omega)) (by decide)
                  have hdu := hd_u (s := x2.toInt) hbs_11.lin.1 (by omega) hE_191
                  have e21f : (A_191 40 (x_7.toInt + 21).toNat).toInt = (A 40 (x_7.toInt + 21).toNat).toInt + y_176.toInt := by rw [hE_191, va_up_self, pk_un (by omega)]; exact iv_178_2
                  have e20f := congrArg Int32.toInt (fzz.ar hbs_11.lin.1 (lo := 20) (hi := 20) (by decide) (x_7.toInt + 20) (by decide) (by omega) (by omega))
                  have e26f := congrArg Int32.toInt (fzz.ar hbs_11.lin.1 (lo := 26) (hi := 26) (by decide) (x_7.toInt + 26) (by decide) (by omega) (by omega))
                  have e43f := congrArg Int32.toInt (fzz.ar hbs_11.lin.1 (lo := 43) (hi := 43) (by decide) (x_7.toInt + 43) (by decide) (by omega) (by omega))
                  have eqf : ∀ q : Int, 0 ≤ q → q ≤ 3 → q ≠ x2.toInt → hd (A_191 40) x_7.toInt q = hd (A 40) x_7.toInt q := fun q q0 q1 q2 => by rw [hdu.2 q q0 q1 q2]; unfold hd; rw [iv_178_1.ar hbs_11.lin.1 (lo := 22) (hi := 25) (by decide) (x_7.toInt + q + 22) (by decide) (by omega) (by omega)]
                  have hmf : mx (hd (A_191 40) x_7.toInt x2.toInt) = 0 := by rw [hdu.1, ti_m1]; exact mx_0 (by decide)
                  have hmo : mx (hd (A 40) x_7.toInt x2.toInt) = y_176.toInt := by
                    have hu : hd (A 40) x_7.toInt x2.toInt = (A 40 (x_7.toInt + x2.toInt + 22).toNat).toInt := rfl
                    unfold mx; split <;> omega
                  have rSf : rS (A_191 40) x_7.toInt := rS.gen hrow.1.1.1 (by omega) eqf (by rw [e21f, e26f, e20f, hmf, hmo]; omega) (by rw [e21f, e43f, hmf, hmo]; omega)
                  have f22 : fC (A_178 40) (A_191 40) x_7.toInt [(22, 25)] := fC.s2 hE_191 hbs_11.lin.1 (by decide) (by omega)
                  have rKf : rK (A_191 40) x_7.toInt := rK.fw iv_178_3 hbs_11.lin.1 f22 (wz_of f22 hbs_11.lin.1 (by decide)) tRq.p1.2 tRq.p21.2 (by decide) (by decide) (by decide)
                  have dLf : dL (A_191 40) x_7.toInt (A_191 40 (x_7.toInt + 26).toNat).toInt := by rw [e26f]; exact dL.fC hrow.1.1.2.1 (hT0.row hbs_11).p26.2 hbs_11.lin.1 fzz (by decide)
                  have e5f := fzz.ar hbs_11.lin.1 (lo := 5) (hi := 5) (by decide) (x_7.toInt + 5) (by decide) (by omega) (by omega)
                  have rNf : rowN (A_191 40) x_7.toInt := rowN.d2 ⟨rSf, dLf, rKf⟩ (by rw [e5f]; omega)
                  have fzm : fC (A 40) (A_191 40) (1290 * x1.toInt) ([(21, 21), (22, 25), (35, 38), (110, 169), (170, 229)] : List (Int × Int)) := fC.mv fzz (by omega)
                  have aRc : aR (A_191 40) N := aR.do (t := x1.toInt) hp0.1 hT0 (by omega) fzm (by decide) (by rw [← hbo_174]; exact rNf) (by decide) (by decide) (by decide)
                  refine lv_iload hx hb dX12_seat_201 (lv_at hl 1 rfl) ?_
                  exact maI hQ hx hb hr hlk hP hS ⟨hT, FA, FF, ⟨(aRc.mono (by omega)), (cOk.st (t := x1.toInt) hp0.2.1 (by omega) fzm (by decide) (by rw [← hbo_174, e5f]; omega)), by omega, by omega⟩⟩ dX12_seat_203
                · skip
                  refine lv_aload_n hx hb dX12_seat_109 rfl (lv_at hl 3 rfl) ?_
                  refine mg_0 C hs hP ha0 hk0 wf_X12_8 dX12_seat_110 ?_
                  refine lv_iload hx hb dX12_seat_113 (lv_at hl 2 rfl) ?_
                  refine lv_sipush (v := 230) hx hb dX12_seat_115 (by decide) ?_
                  refine lv_iadd hx hb dX12_seat_118 ?_
                  refine lv_topi (fun x_193 ex_193 => ?_)
                  refine lv_bipush (v := 60) hx hb dX12_seat_119 (by decide) ?_
                  refine lv_iload_n hx hb dX12_seat_121 rfl (lv_at hl 5 rfl) ?_
                  refine lv_imul hx hb dX12_seat_122 ?_
                  refine lv_topi (fun x_194 ex_194 => ?_)
                  refine lv_iadd hx hb dX12_seat_123 ?_
                  refine lv_topi (fun x_195 ex_195 => ?_)
                  refine lv_iload hx hb dX12_seat_124 (lv_at hl 0 rfl) ?_
                  refine lv_iadd hx hb dX12_seat_126 ?_
                  refine lv_topi (fun x_196 ex_196 => ?_)
                  have hi_hr_197 : zEq x_196.toInt (x_7.toInt + 60 * x2.toInt + y_176.toInt + 230) := by
                    obtain ⟨f_193, l_193, u_193⟩ := z_add ex_193 rfl ti_230
                    try replace f_193 : x_193.toInt = x_7.toInt + 230 := by omega
                    clear l_193 u_193
                    obtain ⟨f_194, l_194, u_194⟩ := z_mul ex_194 ti_60 rfl
                    try replace f_194 : x_194.toInt = 60 * x2.toInt := by omega
                    clear l_194 u_194
                    obtain ⟨f_195, l_195, u_195⟩ := z_add ex_195 rfl rfl
                    try replace f_195 : x_195.toInt = x_193.toInt + x_194.toInt := by omega
                    clear l_195 u_195
                    have g_198 := z_rng y_176
                    obtain ⟨f_196, l_196, u_196⟩ := z_add ex_196 rfl rfl
                    try replace f_196 : x_196.toInt = x_195.toInt + y_176.toInt := by omega
                    clear l_196 u_196
                    show x_196.toInt = (x_7.toInt + 60 * x2.toInt + y_176.toInt + 230)
                    omega
                  have hl_hr_197 : 230 ≤ 60 * x2.toInt + y_176.toInt + 230 ∧ 60 * x2.toInt + y_176.toInt + 230 ≤ 469 := by
                    have g_199 := z_rng y_176
                    omega
                  have hid_hr_197 : (x_7.toInt + 60 * x2.toInt + y_176.toInt + 230) = x_7.toInt + (60 * x2.toInt + y_176.toInt + 230) := by simp only [Int.add_assoc, Int.add_sub_assoc]
                  have hr_197 := z_cell (lo := 170) (hi := 469) hbs_11 hi_hr_197 hid_hr_197 hl_hr_197 (by decide)
                  replace hid_hr_197 : zEq (x_7.toInt + 60 * x2.toInt + y_176.toInt + 230) (x_7.toInt + (60 * x2.toInt + y_176.toInt + 230)) := hid_hr_197
                  have hin_200 : vp_in x_196 (zn K (zr K a0 0)) := vp_in_iff.mpr (by rw [(hf_8.2.2 (by decide))]; exact hr_197.in)
                  refine mld_40 C hs hP hf_8.1 hf_8.2.1 hin_200 dX12_seat_127 ?_
                  have ep_201 : x_196.toNatClampNeg = (x_7.toInt + 60 * x2.toInt + y_176.toInt + 230).toNat := z_posE hi_hr_197
                  rw [ep_201]
                  have tv_202 := rv_170 hT hr_197
                  rw [ep_201] at tv_202
                  clear ep_201
                  refine lv_istore (lv' := [(7, .int (A_178 40 (x_7.toInt + 60 * x2.toInt + y_176.toInt + 230).toNat)), (6, .int y_176), (5, .int (A 40 (x_7.toInt + x2.toInt + 35).toNat)), (4, .int x_7), (0, .ref a0), (1, .int x1), (2, .int x2), (3, .int x3)]) hx hb dX12_seat_128 hl (by decide) rfl (fun ls hl => ?_)
                  refine lv_aload_n hx hb dX12_seat_130 rfl (lv_at hl 4 rfl) ?_
                  refine mg_0 C hs hP ha0 hk0 wf_X12_8 dX12_seat_131 ?_
                  refine lv_iload hx hb dX12_seat_134 (lv_at hl 3 rfl) ?_
                  refine lv_sipush (v := 170) hx hb dX12_seat_136 (by decide) ?_
                  refine lv_iadd hx hb dX12_seat_139 ?_
                  refine lv_topi (fun x_203 ex_203 => ?_)
                  refine lv_aload_n hx hb dX12_seat_140 rfl (lv_at hl 4 rfl) ?_
                  refine mg_0 C hs hP ha0 hk0 wf_X12_8 dX12_seat_141 ?_
                  refine lv_iload hx hb dX12_seat_144 (lv_at hl 3 rfl) ?_
                  refine lv_bipush (v := 21) hx hb dX12_seat_146 (by decide) ?_
                  refine lv_iadd hx hb dX12_seat_148 ?_
                  refine lv_topi (fun x_204 ex_204 => ?_)
                  have hi_hr_205 : zEq x_204.toInt (x_7.toInt + 21) := by
                    obtain ⟨f_204, l_204, u_204⟩ := z_add ex_204 rfl ti_21
                    try replace f_204 : x_204.toInt = x_7.toInt + 21 := by omega
                    clear l_204 u_204
                    show x_204.toInt = (x_7.toInt + 21)
                    omega
                  have hl_hr_205 : (21 : Int) ≤ 21 ∧ 21 ≤ (21 : Int) := by decide
                  have hid_hr_205 : (x_7.toInt + 21) = x_7.toInt + (21) := by simp only [Int.add_assoc, Int.add_sub_assoc]
                  have hr_205 := z_cell (lo := 20) (hi := 21) hbs_11 hi_hr_205 hid_hr_205 hl_hr_205 (by decide)
                  replace hid_hr_205 : zEq (x_7.toInt + 21) (x_7.toInt + (21)) := hid_hr_205
                  have hin_206 : vp_in x_204 (zn K (zr K a0 0)) := vp_in_iff.mpr (by rw [(hf_8.2.2 (by decide))]; exact hr_205.in)
                  refine mld_40 C hs hP hf_8.1 hf_8.2.1 hin_206 dX12_seat_149 ?_
                  have ep_207 : x_204.toNatClampNeg = (x_7.toInt + 21).toNat := z_posE hi_hr_205
                  rw [ep_207]
                  have tv_208 := rv_20 hT hr_205
                  rw [ep_207] at tv_208
                  clear ep_207
                  refine lv_iadd hx hb dX12_seat_150 ?_
                  refine lv_topi (fun x_209 ex_209 => ?_)
                  refine lv_iload hx hb dX12_seat_151 (lv_at hl 0 rfl) ?_
                  have hTo := hT
                  have hi_hr_210 : zEq x_209.toInt (x_7.toInt + (A_178 40 (x_7.toInt + 21).toNat).toInt + 170) := by
                    obtain ⟨f_203, l_203, u_203⟩ := z_add ex_203 rfl ti_170
                    try replace f_203 : x_203.toInt = x_7.toInt + 170 := by omega
                    clear l_203 u_203
                    have g_211 := z_rng (A_178 40 (x_7.toInt + 21).toNat)
                    obtain ⟨f_209, l_209, u_209⟩ := z_add ex_209 rfl rfl
                    try replace f_209 : x_209.toInt = x_203.toInt + (A_178 40 (x_7.toInt + 21).toNat).toInt := by omega
                    clear l_209 u_209
                    show x_209.toInt = (x_7.toInt + (A_178 40 (x_7.toInt + 21).toNat).toInt + 170)
                    omega
                  have hl_hr_210 : 170 ≤ (A_178 40 (x_7.toInt + 21).toNat).toInt + 170 ∧ (A_178 40 (x_7.toInt + 21).toNat).toInt + 170 ≤ 229 := by
                    have g_212 := z_rng (A_178 40 (x_7.toInt + 21).toNat)
                    omega
                  have hid_hr_210 : (x_7.toInt + (A_178 40 (x_7.toInt + 21).toNat).toInt + 170) = x_7.toInt + ((A_178 40 (x_7.toInt + 21).toNat).toInt + 170) := by simp only [Int.add_assoc, Int.add_sub_assoc]
                  have hr_210 := z_cell (lo := 170) (hi := 469) hbs_11 hi_hr_210 hid_hr_210 hl_hr_210 (by decide)
                  replace hid_hr_210 : zEq (x_7.toInt + (A_178 40 (x_7.toInt + 21).toNat).toInt + 170) (x_7.toInt + ((A_178 40 (x_7.toInt + 21).toNat).toInt + 170)) := hid_hr_210
                  have hin_213 : vp_in x_209 (zn K (zr K a0 0)) := vp_in_iff.mpr (by rw [(hf_8.2.2 (by decide))]; exact hr_210.in)
                  have g_215 := z_rng (A_178 40 (x_7.toInt + 60 * x2.toInt + y_176.toInt + 230).toNat)
                  refine mst_40 C hM hs hP hS hf_8.1 hT hf_8.2.1 hin_213 (tp_170 hr_210 (show 0 ≤ (A_178 40 (x_7.toInt + 60 * x2.toInt + y_176.toInt + 230).toNat).toInt ∧ (A_178 40 (x_7.toInt + 60 * x2.toInt + y_176.toInt + 230).toNat).toInt ≤ 59 from by omega)) dX12_seat_153 (fun A_214 H locs hE_214 hT hP hS => ?_)
                  have ep_216 : x_209.toNatClampNeg = (x_7.toInt + (A_178 40 (x_7.toInt + 21).toNat).toInt + 170).toNat := z_posE hi_hr_210
                  rw [ep_216] at hE_214
                  clear ep_216
                  have FA := frA FA (frAu hE_214) (by decide)
                  refine lv_aload_n hx hb dX12_seat_154 rfl (lv_at hl 4 rfl) ?_
                  refine mg_0 C hs hP ha0 hk0 wf_X12_8 dX12_seat_155 ?_
                  refine lv_iload hx hb dX12_seat_158 (lv_at hl 3 rfl) ?_
                  refine lv_bipush (v := 21) hx hb dX12_seat_160 (by decide) ?_
                  refine lv_iadd hx hb dX12_seat_162 ?_
                  refine lv_topi (fun x_217 ex_217 => ?_)
                  refine lv_dup2_11 hx hb dX12_seat_163 rfl rfl ?_
                  have hi_hr_218 : zEq x_217.toInt (x_7.toInt + 21) := by
                    obtain ⟨f_217, l_217, u_217⟩ := z_add ex_217 rfl ti_21
                    try replace f_217 : x_217.toInt = x_7.toInt + 21 := by omega
                    clear l_217 u_217
                    show x_217.toInt = (x_7.toInt + 21)
                    omega
                  have hl_hr_218 : (21 : Int) ≤ 21 ∧ 21 ≤ (21 : Int) := by decide
                  have hid_hr_218 : (x_7.toInt + 21) = x_7.toInt + (21) := by simp only [Int.add_assoc, Int.add_sub_assoc]
                  have hr_218 := z_cell (lo := 20) (hi := 21) hbs_11 hi_hr_218 hid_hr_218 hl_hr_218 (by decide)
                  replace hid_hr_218 : zEq (x_7.toInt + 21) (x_7.toInt + (21)) := hid_hr_218
                  have hin_219 : vp_in x_217 (zn K (zr K a0 0)) := vp_in_iff.mpr (by rw [(hf_8.2.2 (by decide))]; exact hr_218.in)
                  refine mld_40 C hs hP hf_8.1 hf_8.2.1 hin_219 dX12_seat_164 ?_
                  have ep_220 : x_217.toNatClampNeg = (x_7.toInt + 21).toNat := z_posE hi_hr_218
                  rw [ep_220]
                  obtain ⟨f_217, l_217, u_217⟩ := z_add ex_217 rfl ti_21
                  try replace f_217 : x_217.toInt = x_7.toInt + 21 := by omega
                  clear l_217 u_217
                  obtain ⟨f_203, l_203, u_203⟩ := z_add ex_203 rfl ti_170
                  try replace f_203 : x_203.toInt = x_7.toInt + 170 := by omega
                  clear l_203 u_203
                  have g_222 := z_rng (A_178 40 (x_7.toInt + 21).toNat)
                  obtain ⟨f_209, l_209, u_209⟩ := z_add ex_209 rfl rfl
                  try replace f_209 : x_209.toInt = x_203.toInt + (A_178 40 (x_7.toInt + 21).toNat).toInt := by omega
                  clear l_209 u_209
                  have hn_221 : (x_7.toInt + 21).toNat ≠ (x_7.toInt + (A_178 40 (x_7.toInt + 21).toNat).toInt + 170).toNat := zNe (by omega) (by omega) (by omega)
                  have ev_223 : A_214 40 (x_7.toInt + 21).toNat = A_178 40 (x_7.toInt + 21).toNat := by rw [hE_214, va_up_self, pk_un hn_221]
                  clear hn_221
                  rw [ev_223]
                  clear ep_220
                  refine lv_iconst (v := 1) hx hb dX12_seat_165 (by decide) ?_
                  refine lv_iadd hx hb dX12_seat_166 ?_
                  refine lv_topi (fun x_224 ex_224 => ?_)
                  have hTo := hT
                  have hin_225 : vp_in x_217 (zn K (zr K a0 0)) := vp_in_iff.mpr (by rw [(hf_8.2.2 (by decide))]; exact hr_218.in)
                  obtain ⟨f_224, l_224, u_224⟩ := z_add ex_224 rfl ti_1
                  try replace f_224 : x_224.toInt = (A_178 40 (x_7.toInt + 21).toNat).toInt + 1 := by omega
                  clear l_224 u_224
                  refine mst_40 C hM hs hP hS hf_8.1 hT hf_8.2.1 hin_225 (tp_20 hr_218 (show 0 ≤ x_224.toInt ∧ x_224.toInt ≤ 60 from by omega)) dX12_seat_167 (fun A_226 H locs hE_226 hT hP hS => ?_)
                  have ep_227 : x_217.toNatClampNeg = (x_7.toInt + 21).toNat := z_posE hi_hr_218
                  rw [ep_227] at hE_226
                  clear ep_227
                  have FA := frA FA (frAu hE_226) (by decide)
                  refine lv_aload_n hx hb dX12_seat_168 rfl (lv_at hl 4 rfl) ?_
                  refine mg_0 C hs hP ha0 hk0 wf_X12_8 dX12_seat_169 ?_
                  refine lv_iload hx hb dX12_seat_172 (lv_at hl 3 rfl) ?_
                  refine lv_bipush (v := 110) hx hb dX12_seat_174 (by decide) ?_
                  refine lv_iadd hx hb dX12_seat_176 ?_
                  refine lv_topi (fun x_228 ex_228 => ?_)
                  refine lv_iload hx hb dX12_seat_177 (lv_at hl 0 rfl) ?_
                  refine lv_iadd hx hb dX12_seat_179 ?_
                  refine lv_topi (fun x_229 ex_229 => ?_)
                  refine lv_iconst (v := 0) hx hb dX12_seat_180 (by decide) ?_
                  have hTo := hT
                  have hi_hr_230 : zEq x_229.toInt (x_7.toInt + (A_178 40 (x_7.toInt + 60 * x2.toInt + y_176.toInt + 230).toNat).toInt + 110) := by
                    obtain ⟨f_228, l_228, u_228⟩ := z_add ex_228 rfl ti_110
                    try replace f_228 : x_228.toInt = x_7.toInt + 110 := by omega
                    clear l_228 u_228
                    obtain ⟨f_229, l_229, u_229⟩ := z_add ex_229 rfl rfl
                    try replace f_229 : x_229.toInt = x_228.toInt + (A_178 40 (x_7.toInt + 60 * x2.toInt + y_176.toInt + 230).toNat).toInt := by omega
                    clear l_229 u_229
                    show x_229.toInt = (x_7.toInt + (A_178 40 (x_7.toInt + 60 * x2.toInt + y_176.toInt + 230).toNat).toInt + 110)
                    omega
                  have hl_hr_230 : 110 ≤ (A_178 40 (x_7.toInt + 60 * x2.toInt + y_176.toInt + 230).toNat).toInt + 110 ∧ (A_178 40 (x_7.toInt + 60 * x2.toInt + y_176.toInt + 230).toNat).toInt + 110 ≤ 169 := by
                    omega
                  have hid_hr_230 : (x_7.toInt + (A_178 40 (x_7.toInt + 60 * x2.toInt + y_176.toInt + 230).toNat).toInt + 110) = x_7.toInt + ((A_178 40 (x_7.toInt + 60 * x2.toInt + y_176.toInt + 230).toNat).toInt + 110) := by simp only [Int.add_assoc, Int.add_sub_assoc]
                  have hr_230 := z_cell (lo := 45) (hi := 169) hbs_11 hi_hr_230 hid_hr_230 hl_hr_230 (by decide)
                  replace hid_hr_230 : zEq (x_7.toInt + (A_178 40 (x_7.toInt + 60 * x2.toInt + y_176.toInt + 230).toNat).toInt + 110) (x_7.toInt + ((A_178 40 (x_7.toInt + 60 * x2.toInt + y_176.toInt + 230).toNat).toInt + 110)) := hid_hr_230
                  have hin_231 : vp_in x_229 (zn K (zr K a0 0)) := vp_in_iff.mpr (by rw [(hf_8.2.2 (by decide))]; exact hr_230.in)
                  refine mst_40 C hM hs hP hS hf_8.1 hT hf_8.2.1 hin_231 (tp_45 hr_230) dX12_seat_181 (fun A_232 H locs hE_232 hT hP hS => ?_)
                  have ep_233 : x_229.toNatClampNeg = (x_7.toInt + (A_178 40 (x_7.toInt + 60 * x2.toInt + y_176.toInt + 230).toNat).toInt + 110).toNat := z_posE hi_hr_230
                  rw [ep_233] at hE_232
                  clear ep_233
                  have FA := frA FA (frAu hE_232) (by decide)
                  obtain ⟨x_234, ex_234⟩ : ∃ y : Int32, y = y_176 + 1 := ⟨_, rfl⟩
                  refine lv_iinc (v := x_234) (lv' := [(6, .int x_234), (7, .int (A_178 40 (x_7.toInt + 60 * x2.toInt + y_176.toInt + 230).toNat)), (5, .int (A 40 (x_7.toInt + x2.toInt + 35).toNat)), (4, .int x_7), (0, .ref a0), (1, .int x1), (2, .int x2), (3, .int x3)]) hx hb dX12_seat_182 hl (k := 1) rfl (by rw [ex_234]; rfl) (by decide) rfl (fun ls hl => ?_)
                  refine lv_goto (tgt := 92) hx hb dX12_seat_185 (by decide) ?_
                  have g_235 := z_rng y_176
                  obtain ⟨f_234, l_234, u_234⟩ := z_add ex_234 rfl ti_1
                  try replace f_234 : x_234.toInt = y_176.toInt + 1 := by omega
                  clear l_234 u_234
                  have g_236 := z_rng (A_178 40 (x_7.toInt + x2.toInt + 22).toNat)
                  have fs_237 : fC (A 40) (A_214 40) x_7.toInt ([(21, 21), (35, 38), (110, 169), (170, 229)] : List (Int × Int)) := fC.tr iv_178_1 (fC.s2 (lo := 170) (hi := 229) hE_214 hbs_11.lin.1 (by decide) (by omega)) (by decide)
                  have fs_238 : fC (A 40) (A_226 40) x_7.toInt ([(21, 21), (35, 38), (110, 169), (170, 229)] : List (Int × Int)) := fC.tr fs_237 (fC.s2 (lo := 21) (hi := 21) hE_226 hbs_11.lin.1 (by decide) (by omega)) (by decide)
                  have fs_239 : fC (A 40) (A_232 40) x_7.toInt ([(21, 21), (35, 38), (110, 169), (170, 229)] : List (Int × Int)) := fC.tr fs_238 (fC.s2 (lo := 110) (hi := 169) hE_232 hbs_11.lin.1 (by decide) (by omega)) (by decide)
                  have eu_240 : A_232 40 = upd (upd (upd (A_178 40) ((x_7.toInt + (A_178 40 (x_7.toInt + 21).toNat).toInt + 170).toNat) (A_178 40 (x_7.toInt + 60 * x2.toInt + y_176.toInt + 230).toNat)) ((x_7.toInt + 21).toNat) x_224) ((x_7.toInt + (A_178 40 (x_7.toInt + 60 * x2.toInt + y_176.toInt + 230).toNat).toInt + 110).toNat) 0 := by rw [hE_232, va_up_self, hE_226, va_up_self, hE_214, va_up_self]
                  exact ih_177 A_232 _ _ x_234 _ (by omega) (by omega) fs_239 (by rw [eu_240, pk_un (by omega), pk_us]; omega) (rK.app (c := A_178 40 (x_7.toInt + 60 * x2.toInt + y_176.toInt + 230).toNat) iv_178_3 tRq (by omega) (by omega) hbs_11.lin.1 eu_240 (by omega)) (Or.inr (by omega)) FA hT hP hS (lv_sub hl [0, 2, 3, 4, 5, 6, 7] rfl)
            have g_241 := z_rng (A 40 (x_7.toInt + 5).toNat)
            have g_242 := z_rng x3
            have g_243 := z_rng x_1
            have g_244 := z_rng x_4
            have tR0 := hT0.row hbs_11
            have t21 := tR0.p21
            have t43 := tR0.p43
            have hrow : rowOk (A 40) x_7.toInt N := by rw [hbo_174]; exact hp0.1 x1.toInt (by omega) (by omega)
            have hrs := hrow.1.1.1.2
            have hSg := hS_ge (C := A 40) (b := x_7.toInt) (s := x2.toInt) (by omega)
            have hmx : (A 40 (x_7.toInt + x2.toInt + 22).toNat).toInt ≤ mx (hd (A 40) x_7.toInt x2.toInt) := mx_le _
            have f35 : fC (A 40) (A_172 40) x_7.toInt [(35, 38)] := fC.s2 hE_172 hbs_11.lin.1 (by decide) (by omega)
            exact L_92_177 _ A_172 _ _ 0 _ (Nat.lt_succ_self _) (by (try simp only [ti_0]); omega) (fC.tr fC.rf f35 (by decide)) (by rw [f35.ar hbs_11.lin.1 (lo := 21) (hi := 21) (by decide) (x_7.toInt + 21) (by decide) (by omega) (by omega), ti_0]; omega) (rK.fw hrow.1.1.2.2 hbs_11.lin.1 f35 (wz_of f35 hbs_11.lin.1 (by decide)) tR0.p1.2 tR0.p21.2 (by decide) (by decide) (by decide)) (Or.inl (by rw [ti_0]; decide)) FA hT hP hS (lv_sub hl [0, 1, 2, 3, 4, 5, 6] rfl)
          · skip
            refine lv_iload hx hb dX12_seat_80 (lv_at hl 0 rfl) ?_
            refine lv_iconst (v := 1) hx hb dX12_seat_82 (by decide) ?_
            refine bi_ne (tgt := 89) hx hb rfl ti_1 dX12_seat_83 (by decide) (fun c_245 => ?_) (fun c_245 => ?_)
            · skip
              refine lv_iconst (v := 0) hx hb dX12_seat_89 (by decide) ?_
              refine lv_istore (lv' := [(6, .int 0), (5, .int (A 40 (x_7.toInt + x2.toInt + 35).toNat)), (4, .int x_7), (0, .ref a0), (1, .int x1), (2, .int x2), (3, .int x3)]) hx hb dX12_seat_90 hl (by decide) rfl (fun ls hl => ?_)
              have L_92_247 : ∀ (n_247 : Nat) (A_248 : Nat → Nat → Int32) (H : Heap) (locs : List Loc) (y_246 : Int32) (ls : Array Slot), (2147483648 - y_246.toInt).toNat < n_247 → 0 ≤ y_246.toInt → fC (A 40) (A_248 40) x_7.toInt ([(21, 21), (35, 38), (110, 169), (170, 229)] : List (Int × Int)) → (A_248 40 (x_7.toInt + 21).toNat).toInt = (A 40 (x_7.toInt + 21).toNat).toInt + y_246.toInt → rK (A_248 40) x_7.toInt → (y_246.toInt ≤ 0 ∨ y_246.toInt ≤ (A 40 (x_7.toInt + x2.toInt + 22).toNat).toInt) → (∀ k, k ∉ ([40] : List Nat) → A_248 k = A k) → mT f A_248 → va_P D vwCl (zW K (mV K f A_248)) H → va_S (zA K) s.heap H locs → lv_has ls 8 [(6, .int y_246), (5, .int (A 40 (x_7.toInt + x2.toInt + 35).toNat)), (4, .int x_7), (0, .ref a0), (1, .int x1), (2, .int x2), (3, .int x3)] → W p l e (rmd 2) s m args below meth c H locs 0 0 Q (F0 m 92 ls []) := by
                intro n_247
                induction n_247 with
                | zero => intro A_248 H locs y_246 ls hm_247; exact absurd hm_247 (Nat.not_lt_zero _)
                | succ n_247 ih_247 =>
                  intro A_248 H locs y_246 ls hm_247 iv_248_0 iv_248_1 iv_248_2 iv_248_3 iv_248_4 FA_248 hT hP hS hl
                  have FA := FA_248
                  have tRq := hT.row hbs_11
                  have tR0 := hT0.row hbs_11
                  have t21 := tR0.p21
                  have t43 := tR0.p43
                  have hrow : rowOk (A 40) x_7.toInt N := by rw [hbo_174]; exact hp0.1 x1.toInt (by omega) (by omega)
                  have hrs := hrow.1.1.1.2
                  have hSg := hS_ge (C := A 40) (b := x_7.toInt) (s := x2.toInt) (by omega)
                  have hmx : (A 40 (x_7.toInt + x2.toInt + 22).toNat).toInt ≤ mx (hd (A 40) x_7.toInt x2.toInt) := mx_le _
                  have eHq := congrArg Int32.toInt (iv_248_1.ar hbs_11.lin.1 (lo := 22) (hi := 25) (by decide) (x_7.toInt + x2.toInt + 22) (by decide) (by omega) (by omega))
                  refine lv_iload hx hb dX12_seat_92 (lv_at hl 0 rfl) ?_
                  refine lv_aload_n hx hb dX12_seat_94 rfl (lv_at hl 3 rfl) ?_
                  refine mg_0 C hs hP ha0 hk0 wf_X12_8 dX12_seat_95 ?_
                  refine lv_iload hx hb dX12_seat_98 (lv_at hl 2 rfl) ?_
                  refine lv_bipush (v := 22) hx hb dX12_seat_100 (by decide) ?_
                  refine lv_iadd hx hb dX12_seat_102 ?_
                  refine lv_topi (fun x_250 ex_250 => ?_)
                  refine lv_iload_n hx hb dX12_seat_103 rfl (lv_at hl 5 rfl) ?_
                  refine lv_iadd hx hb dX12_seat_104 ?_
                  refine lv_topi (fun x_251 ex_251 => ?_)
                  have hi_hr_252 : zEq x_251.toInt (x_7.toInt + x2.toInt + 22) := by
                    obtain ⟨f_250, l_250, u_250⟩ := z_add ex_250 rfl ti_22
                    try replace f_250 : x_250.toInt = x_7.toInt + 22 := by omega
                    clear l_250 u_250
                    obtain ⟨f_251, l_251, u_251⟩ := z_add ex_251 rfl rfl
                    try replace f_251 : x_251.toInt = x_250.toInt + x2.toInt := by omega
                    clear l_251 u_251
                    show x_251.toInt = (x_7.toInt + x2.toInt + 22)
                    omega
                  have hl_hr_252 : 22 ≤ x2.toInt + 22 ∧ x2.toInt + 22 ≤ 25 := by
                    omega
                  have hid_hr_252 : (x_7.toInt + x2.toInt + 22) = x_7.toInt + (x2.toInt + 22) := by simp only [Int.add_assoc, Int.add_sub_assoc]
                  have hr_252 := z_cell (lo := 22) (hi := 25) hbs_11 hi_hr_252 hid_hr_252 hl_hr_252 (by decide)
                  replace hid_hr_252 : zEq (x_7.toInt + x2.toInt + 22) (x_7.toInt + (x2.toInt + 22)) := hid_hr_252
                  have hin_253 : vp_in x_251 (zn K (zr K a0 0)) := vp_in_iff.mpr (by rw [(hf_8.2.2 (by decide))]; exact hr_252.in)
                  refine mld_40 C hs hP hf_8.1 hf_8.2.1 hin_253 dX12_seat_105 ?_
                  have ep_254 : x_251.toNatClampNeg = (x_7.toInt + x2.toInt + 22).toNat := z_posE hi_hr_252
                  rw [ep_254]
                  have tv_255 := rv_22 hT hr_252
                  rw [ep_254] at tv_255
                  clear ep_254
                  refine bi_ge (tgt := 188) hx hb rfl rfl dX12_seat_106 (by decide) (fun c_256 => ?_) (fun c_256 => ?_)
                  · skip
                    refine lv_aload_n hx hb dX12_seat_188 rfl (lv_at hl 3 rfl) ?_
                    refine mg_0 C hs hP ha0 hk0 wf_X12_8 dX12_seat_189 ?_
                    refine lv_iload hx hb dX12_seat_192 (lv_at hl 2 rfl) ?_
                    refine lv_bipush (v := 22) hx hb dX12_seat_194 (by decide) ?_
                    refine lv_iadd hx hb dX12_seat_196 ?_
                    refine lv_topi (fun x_257 ex_257 => ?_)
                    refine lv_iload_n hx hb dX12_seat_197 rfl (lv_at hl 5 rfl) ?_
                    refine lv_iadd hx hb dX12_seat_198 ?_
                    refine lv_topi (fun x_258 ex_258 => ?_)
                    refine lv_iconst (v := (-1)) hx hb dX12_seat_199 (by decide) ?_
                    have hTo := hT
                    have hi_hr_259 : zEq x_258.toInt (x_7.toInt + x2.toInt + 22) := by
                      obtain ⟨f_257, l_257, u_257⟩ := z_add ex_257 rfl ti_22
                      try replace f_257 : x_257.toInt = x_7.toInt + 22 := by omega
                      clear l_257 u_257
                      obtain ⟨f_258, l_258, u_258⟩ := z_add ex_258 rfl rfl
                      try replace f_258 : x_258.toInt = x_257.toInt + x2.toInt := by omega
                      clear l_258 u_258
                      show x_258.toInt = (x_7.toInt + x2.toInt + 22)
                      omega
                    have hl_hr_259 : 22 ≤ x2.toInt + 22 ∧ x2.toInt + 22 ≤ 25 := by
                      omega
                    have hid_hr_259 : (x_7.toInt + x2.toInt + 22) = x_7.toInt + (x2.toInt + 22) := by simp only [Int.add_assoc, Int.add_sub_assoc]
                    have hr_259 := z_cell (lo := 22) (hi := 25) hbs_11 hi_hr_259 hid_hr_259 hl_hr_259 (by decide)
                    replace hid_hr_259 : zEq (x_7.toInt + x2.toInt + 22) (x_7.toInt + (x2.toInt + 22)) := hid_hr_259
                    have hin_260 : vp_in x_258 (zn K (zr K a0 0)) := vp_in_iff.mpr (by rw [(hf_8.2.2 (by decide))]; exact hr_259.in)
                    refine mst_40 C hM hs hP hS hf_8.1 hT hf_8.2.1 hin_260 (tp_22 hr_259 (show -1 ≤ ((-1) : Int32).toInt ∧ ((-1) : Int32).toInt ≤ 60 from by rw [ti_m1]; omega)) dX12_seat_200 (fun A_261 H locs hE_261 hT hP hS => ?_)
                    have ep_262 : x_258.toNatClampNeg = (x_7.toInt + x2.toInt + 22).toNat := z_posE hi_hr_259
                    rw [ep_262] at hE_261
                    clear ep_262
                    have FA := frA FA (frAu hE_261) (by decide)
                    have fzz : fC (A 40) (A_261 40) x_7.toInt ([(21, 21), (22, 25), (35, 38), (110, 169), (170, 229)] : List (Int × Int)) := fC.tr (fC.tr fC.rf iv_248_1 (by decide)) (fC.s2 (lo := 22) (hi := 25) hE_261 hbs_11.lin.1 (by decide) (by omega)) (by decide)
                    have hdu := hd_u (s := x2.toInt) hbs_11.lin.1 (by omega) hE_261
                    have e21f : (A_261 40 (x_7.toInt + 21).toNat).toInt = (A 40 (x_7.toInt + 21).toNat).toInt + y_246.toInt := by rw [hE_261, va_up_self, pk_un (by omega)]; exact iv_248_2
                    have e20f := congrArg Int32.toInt (fzz.ar hbs_11.lin.1 (lo := 20) (hi := 20) (by decide) (x_7.toInt + 20) (by decide) (by omega) (by omega))
                    have e26f := congrArg Int32.toInt (fzz.ar hbs_11.lin.1 (lo := 26) (hi := 26) (by decide) (x_7.toInt + 26) (by decide) (by omega) (by omega))
                    have e43f := congrArg Int32.toInt (fzz.ar hbs_11.lin.1 (lo := 43) (hi := 43) (by decide) (x_7.toInt + 43) (by decide) (by omega) (by omega))
                    have eqf : ∀ q : Int, 0 ≤ q → q ≤ 3 → q ≠ x2.toInt → hd (A_261 40) x_7.toInt q = hd (A 40) x_7.toInt q := fun q q0 q1 q2 => by rw [hdu.2 q q0 q1 q2]; unfold hd; rw [iv_248_1.ar hbs_11.lin.1 (lo := 22) (hi := 25) (by decide) (x_7.toInt + q + 22) (by decide) (by omega) (by omega)]
                    have hmf : mx (hd (A_261 40) x_7.toInt x2.toInt) = 0 := by rw [hdu.1, ti_m1]; exact mx_0 (by decide)
                    have hmo : mx (hd (A 40) x_7.toInt x2.toInt) = y_246.toInt := by
                      have hu : hd (A 40) x_7.toInt x2.toInt = (A 40 (x_7.toInt + x2.toInt + 22).toNat).toInt := rfl
                      unfold mx; split <;> omega
                    have rSf : rS (A_261 40) x_7.toInt := rS.gen hrow.1.1.1 (by omega) eqf (by rw [e21f, e26f, e20f, hmf, hmo]; omega) (by rw [e21f, e43f, hmf, hmo]; omega)
                    have f22 : fC (A_248 40) (A_261 40) x_7.toInt [(22, 25)] := fC.s2 hE_261 hbs_11.lin.1 (by decide) (by omega)
                    have rKf : rK (A_261 40) x_7.toInt := rK.fw iv_248_3 hbs_11.lin.1 f22 (wz_of f22 hbs_11.lin.1 (by decide)) tRq.p1.2 tRq.p21.2 (by decide) (by decide) (by decide)
                    have dLf : dL (A_261 40) x_7.toInt (A_261 40 (x_7.toInt + 26).toNat).toInt := by rw [e26f]; exact dL.fC hrow.1.1.2.1 (hT0.row hbs_11).p26.2 hbs_11.lin.1 fzz (by decide)
                    have e5f := fzz.ar hbs_11.lin.1 (lo := 5) (hi := 5) (by decide) (x_7.toInt + 5) (by decide) (by omega) (by omega)
                    have rNf : rowN (A_261 40) x_7.toInt := rowN.d2 ⟨rSf, dLf, rKf⟩ (by rw [e5f]; omega)
                    have fzm : fC (A 40) (A_261 40) (1290 * x1.toInt) ([(21, 21), (22, 25), (35, 38), (110, 169), (170, 229)] : List (Int × Int)) := fC.mv fzz (by omega)
                    have aRc : aR (A_261 40) N := aR.do (t := x1.toInt) hp0.1 hT0 (by omega) fzm (by decide) (by rw [← hbo_174]; exact rNf) (by decide) (by decide) (by decide)
                    refine lv_iload hx hb dX12_seat_201 (lv_at hl 1 rfl) ?_
                    exact maI hQ hx hb hr hlk hP hS ⟨hT, FA, FF, ⟨(aRc.mono (by omega)), (cOk.st (t := x1.toInt) hp0.2.1 (by omega) fzm (by decide) (by rw [← hbo_174, e5f]; omega)), by omega, by omega⟩⟩ dX12_seat_203
                  · skip
                    refine lv_aload_n hx hb dX12_seat_109 rfl (lv_at hl 3 rfl) ?_
                    refine mg_0 C hs hP ha0 hk0 wf_X12_8 dX12_seat_110 ?_
                    refine lv_iload hx hb dX12_seat_113 (lv_at hl 2 rfl) ?_
                    refine lv_sipush (v := 230) hx hb dX12_seat_115 (by decide) ?_
                    refine lv_iadd hx hb dX12_seat_118 ?_
                    refine lv_topi (fun x_263 ex_263 => ?_)
                    refine lv_bipush (v := 60) hx hb dX12_seat_119 (by decide) ?_
                    refine lv_iload_n hx hb dX12_seat_121 rfl (lv_at hl 5 rfl) ?_
                    refine lv_imul hx hb dX12_seat_122 ?_
                    refine lv_topi (fun x_264 ex_264 => ?_)
                    refine lv_iadd hx hb dX12_seat_123 ?_
                    refine lv_topi (fun x_265 ex_265 => ?_)
                    refine lv_iload hx hb dX12_seat_124 (lv_at hl 0 rfl) ?_
                    refine lv_iadd hx hb dX12_seat_126 ?_
                    refine lv_topi (fun x_266 ex_266 => ?_)
                    have hi_hr_267 : zEq x_266.toInt (x_7.toInt + 60 * x2.toInt + y_246.toInt + 230) := by
                      obtain ⟨f_263, l_263, u_263⟩ := z_add ex_263 rfl ti_230
                      try replace f_263 : x_263.toInt = x_7.toInt + 230 := by omega
                      clear l_263 u_263
                      obtain ⟨f_264, l_264, u_264⟩ := z_mul ex_264 ti_60 rfl
                      try replace f_264 : x_264.toInt = 60 * x2.toInt := by omega
                      clear l_264 u_264
                      obtain ⟨f_265, l_265, u_265⟩ := z_add ex_265 rfl rfl
                      try replace f_265 : x_265.toInt = x_263.toInt + x_264.toInt := by omega
                      clear l_265 u_265
                      have g_268 := z_rng y_246
                      obtain ⟨f_266, l_266, u_266⟩ := z_add ex_266 rfl rfl
                      try replace f_266 : x_266.toInt = x_265.toInt + y_246.toInt := by omega
                      clear l_266 u_266
                      show x_266.toInt = (x_7.toInt + 60 * x2.toInt + y_246.toInt + 230)
                      omega
                    have hl_hr_267 : 230 ≤ 60 * x2.toInt + y_246.toInt + 230 ∧ 60 * x2.toInt + y_246.toInt + 230 ≤ 469 := by
                      have g_269 := z_rng y_246
                      omega
                    have hid_hr_267 : (x_7.toInt + 60 * x2.toInt + y_246.toInt + 230) = x_7.toInt + (60 * x2.toInt + y_246.toInt + 230) := by simp only [Int.add_assoc, Int.add_sub_assoc]
                    have hr_267 := z_cell (lo := 170) (hi := 469) hbs_11 hi_hr_267 hid_hr_267 hl_hr_267 (by decide)
                    replace hid_hr_267 : zEq (x_7.toInt + 60 * x2.toInt + y_246.toInt + 230) (x_7.toInt + (60 * x2.toInt + y_246.toInt + 230)) := hid_hr_267
                    have hin_270 : vp_in x_266 (zn K (zr K a0 0)) := vp_in_iff.mpr (by rw [(hf_8.2.2 (by decide))]; exact hr_267.in)
                    refine mld_40 C hs hP hf_8.1 hf_8.2.1 hin_270 dX12_seat_127 ?_
                    have ep_271 : x_266.toNatClampNeg = (x_7.toInt + 60 * x2.toInt + y_246.toInt + 230).toNat := z_posE hi_hr_267
                    rw [ep_271]
                    have tv_272 := rv_170 hT hr_267
                    rw [ep_271] at tv_272
                    clear ep_271
                    refine lv_istore (lv' := [(7, .int (A_248 40 (x_7.toInt + 60 * x2.toInt + y_246.toInt + 230).toNat)), (6, .int y_246), (5, .int (A 40 (x_7.toInt + x2.toInt + 35).toNat)), (4, .int x_7), (0, .ref a0), (1, .int x1), (2, .int x2), (3, .int x3)]) hx hb dX12_seat_128 hl (by decide) rfl (fun ls hl => ?_)
                    refine lv_aload_n hx hb dX12_seat_130 rfl (lv_at hl 4 rfl) ?_
                    refine mg_0 C hs hP ha0 hk0 wf_X12_8 dX12_seat_131 ?_
                    refine lv_iload hx hb dX12_seat_134 (lv_at hl 3 rfl) ?_
                    refine lv_sipush (v := 170) hx hb dX12_seat_136 (by decide) ?_
                    refine lv_iadd hx hb dX12_seat_139 ?_
                    refine lv_topi (fun x_273 ex_273 => ?_)
                    refine lv_aload_n hx hb dX12_seat_140 rfl (lv_at hl 4 rfl) ?_
                    refine mg_0 C hs hP ha0 hk0 wf_X12_8 dX12_seat_141 ?_
                    refine lv_iload hx hb dX12_seat_144 (lv_at hl 3 rfl) ?_
                    refine lv_bipush (v := 21) hx hb dX12_seat_146 (by decide) ?_
                    refine lv_iadd hx hb dX12_seat_148 ?_
                    refine lv_topi (fun x_274 ex_274 => ?_)
                    have hi_hr_275 : zEq x_274.toInt (x_7.toInt + 21) := by
                      obtain ⟨f_274, l_274, u_274⟩ := z_add ex_274 rfl ti_21
                      try replace f_274 : x_274.toInt = x_7.toInt + 21 := by omega
                      clear l_274 u_274
                      show x_274.toInt = (x_7.toInt + 21)
                      omega
                    have hl_hr_275 : (21 : Int) ≤ 21 ∧ 21 ≤ (21 : Int) := by decide
                    have hid_hr_275 : (x_7.toInt + 21) = x_7.toInt + (21) := by simp only [Int.add_assoc, Int.add_sub_assoc]
                    have hr_275 := z_cell (lo := 20) (hi := 21) hbs_11 hi_hr_275 hid_hr_275 hl_hr_275 (by decide)
                    replace hid_hr_275 : zEq (x_7.toInt + 21) (x_7.toInt + (21)) := hid_hr_275
                    have hin_276 : vp_in x_274 (zn K (zr K a0 0)) := vp_in_iff.mpr (by rw [(hf_8.2.2 (by decide))]; exact hr_275.in)
                    refine mld_40 C hs hP hf_8.1 hf_8.2.1 hin_276 dX12_seat_149 ?_
                    have ep_277 : x_274.toNatClampNeg = (x_7.toInt + 21).toNat := z_posE hi_hr_275
                    rw [ep_277]
                    have tv_278 := rv_20 hT hr_275
                    rw [ep_277] at tv_278
                    clear ep_277
                    refine lv_iadd hx hb dX12_seat_150 ?_
                    refine lv_topi (fun x_279 ex_279 => ?_)
                    refine lv_iload hx hb dX12_seat_151 (lv_at hl 0 rfl) ?_
                    have hTo := hT
                    have hi_hr_280 : zEq x_279.toInt (x_7.toInt + (A_248 40 (x_7.toInt + 21).toNat).toInt + 170) := by
                      obtain ⟨f_273, l_273, u_273⟩ := z_add ex_273 rfl ti_170
                      try replace f_273 : x_273.toInt = x_7.toInt + 170 := by omega
                      clear l_273 u_273
                      have g_281 := z_rng (A_248 40 (x_7.toInt + 21).toNat)
                      obtain ⟨f_279, l_279, u_279⟩ := z_add ex_279 rfl rfl
                      try replace f_279 : x_279.toInt = x_273.toInt + (A_248 40 (x_7.toInt + 21).toNat).toInt := by omega
                      clear l_279 u_279
                      show x_279.toInt = (x_7.toInt + (A_248 40 (x_7.toInt + 21).toNat).toInt + 170)
                      omega
                    have hl_hr_280 : 170 ≤ (A_248 40 (x_7.toInt + 21).toNat).toInt + 170 ∧ (A_248 40 (x_7.toInt + 21).toNat).toInt + 170 ≤ 229 := by
                      have g_282 := z_rng (A_248 40 (x_7.toInt + 21).toNat)
                      omega
                    have hid_hr_280 : (x_7.toInt + (A_248 40 (x_7.toInt + 21).toNat).toInt + 170) = x_7.toInt + ((A_248 40 (x_7.toInt + 21).toNat).toInt + 170) := by simp only [Int.add_assoc, Int.add_sub_assoc]
                    have hr_280 := z_cell (lo := 170) (hi := 469) hbs_11 hi_hr_280 hid_hr_280 hl_hr_280 (by decide)
                    replace hid_hr_280 : zEq (x_7.toInt + (A_248 40 (x_7.toInt + 21).toNat).toInt + 170) (x_7.toInt + ((A_248 40 (x_7.toInt + 21).toNat).toInt + 170)) := hid_hr_280
                    have hin_283 : vp_in x_279 (zn K (zr K a0 0)) := vp_in_iff.mpr (by rw [(hf_8.2.2 (by decide))]; exact hr_280.in)
                    have g_285 := z_rng (A_248 40 (x_7.toInt + 60 * x2.toInt + y_246.toInt + 230).toNat)
                    refine mst_40 C hM hs hP hS hf_8.1 hT hf_8.2.1 hin_283 (tp_170 hr_280 (show 0 ≤ (A_248 40 (x_7.toInt + 60 * x2.toInt + y_246.toInt + 230).toNat).toInt ∧ (A_248 40 (x_7.toInt + 60 * x2.toInt + y_246.toInt + 230).toNat).toInt ≤ 59 from by omega)) dX12_seat_153 (fun A_284 H locs hE_284 hT hP hS => ?_)
                    have ep_286 : x_279.toNatClampNeg = (x_7.toInt + (A_248 40 (x_7.toInt + 21).toNat).toInt + 170).toNat := z_posE hi_hr_280
                    rw [ep_286] at hE_284
                    clear ep_286
                    have FA := frA FA (frAu hE_284) (by decide)
                    refine lv_aload_n hx hb dX12_seat_154 rfl (lv_at hl 4 rfl) ?_
                    refine mg_0 C hs hP ha0 hk0 wf_X12_8 dX12_seat_155 ?_
                    refine lv_iload hx hb dX12_seat_158 (lv_at hl 3 rfl) ?_
                    refine lv_bipush (v := 21) hx hb dX12_seat_160 (by decide) ?_
                    refine lv_iadd hx hb dX12_seat_162 ?_
                    refine lv_topi (fun x_287 ex_287 => ?_)
                    refine lv_dup2_11 hx hb dX12_seat_163 rfl rfl ?_
                    have hi_hr_288 : zEq x_287.toInt (x_7.toInt + 21) := by
                      obtain ⟨f_287, l_287, u_287⟩ := z_add ex_287 rfl ti_21
                      try replace f_287 : x_287.toInt = x_7.toInt + 21 := by omega
                      clear l_287 u_287
                      show x_287.toInt = (x_7.toInt + 21)
                      omega
                    have hl_hr_288 : (21 : Int) ≤ 21 ∧ 21 ≤ (21 : Int) := by decide
                    have hid_hr_288 : (x_7.toInt + 21) = x_7.toInt + (21) := by simp only [Int.add_assoc, Int.add_sub_assoc]
                    have hr_288 := z_cell (lo := 20) (hi := 21) hbs_11 hi_hr_288 hid_hr_288 hl_hr_288 (by decide)
                    replace hid_hr_288 : zEq (x_7.toInt + 21) (x_7.toInt + (21)) := hid_hr_288
                    have hin_289 : vp_in x_287 (zn K (zr K a0 0)) := vp_in_iff.mpr (by rw [(hf_8.2.2 (by decide))]; exact hr_288.in)
                    refine mld_40 C hs hP hf_8.1 hf_8.2.1 hin_289 dX12_seat_164 ?_
                    have ep_290 : x_287.toNatClampNeg = (x_7.toInt + 21).toNat := z_posE hi_hr_288
                    rw [ep_290]
                    obtain ⟨f_287, l_287, u_287⟩ := z_add ex_287 rfl ti_21
                    try replace f_287 : x_287.toInt = x_7.toInt + 21 := by omega
                    clear l_287 u_287
                    obtain ⟨f_273, l_273, u_273⟩ := z_add ex_273 rfl ti_170
                    try replace f_273 : x_273.toInt = x_7.toInt + 170 := by omega
                    clear l_273 u_273
                    have g_292 := z_rng (A_248 40 (x_7.toInt + 21).toNat)
                    obtain ⟨f_279, l_279, u_279⟩ := z_add ex_279 rfl rfl
                    try replace f_279 : x_279.toInt = x_273.toInt + (A_248 40 (x_7.toInt + 21).toNat).toInt := by omega
                    clear l_279 u_279
                    have hn_291 : (x_7.toInt + 21).toNat ≠ (x_7.toInt + (A_248 40 (x_7.toInt + 21).toNat).toInt + 170).toNat := zNe (by omega) (by omega) (by omega)
                    have ev_293 : A_284 40 (x_7.toInt + 21).toNat = A_248 40 (x_7.toInt + 21).toNat := by rw [hE_284, va_up_self, pk_un hn_291]
                    clear hn_291
                    rw [ev_293]
                    clear ep_290
                    refine lv_iconst (v := 1) hx hb dX12_seat_165 (by decide) ?_
                    refine lv_iadd hx hb dX12_seat_166 ?_
                    refine lv_topi (fun x_294 ex_294 => ?_)
                    have hTo := hT
                    have hin_295 : vp_in x_287 (zn K (zr K a0 0)) := vp_in_iff.mpr (by rw [(hf_8.2.2 (by decide))]; exact hr_288.in)
                    obtain ⟨f_294, l_294, u_294⟩ := z_add ex_294 rfl ti_1
                    try replace f_294 : x_294.toInt = (A_248 40 (x_7.toInt + 21).toNat).toInt + 1 := by omega
                    clear l_294 u_294
                    refine mst_40 C hM hs hP hS hf_8.1 hT hf_8.2.1 hin_295 (tp_20 hr_288 (show 0 ≤ x_294.toInt ∧ x_294.toInt ≤ 60 from by omega)) dX12_seat_167 (fun A_296 H locs hE_296 hT hP hS => ?_)
                    have ep_297 : x_287.toNatClampNeg = (x_7.toInt + 21).toNat := z_posE hi_hr_288
                    rw [ep_297] at hE_296
                    clear ep_297
                    have FA := frA FA (frAu hE_296) (by decide)
                    refine lv_aload_n hx hb dX12_seat_168 rfl (lv_at hl 4 rfl) ?_
                    refine mg_0 C hs hP ha0 hk0 wf_X12_8 dX12_seat_169 ?_
                    refine lv_iload hx hb dX12_seat_172 (lv_at hl 3 rfl) ?_
                    refine lv_bipush (v := 110) hx hb dX12_seat_174 (by decide) ?_
                    refine lv_iadd hx hb dX12_seat_176 ?_
                    refine lv_topi (fun x_298 ex_298 => ?_)
                    refine lv_iload hx hb dX12_seat_177 (lv_at hl 0 rfl) ?_
                    refine lv_iadd hx hb dX12_seat_179 ?_
                    refine lv_topi (fun x_299 ex_299 => ?_)
                    refine lv_iconst (v := 0) hx hb dX12_seat_180 (by decide) ?_
                    have hTo := hT
                    have hi_hr_300 : zEq x_299.toInt (x_7.toInt + (A_248 40 (x_7.toInt + 60 * x2.toInt + y_246.toInt + 230).toNat).toInt + 110) := by
                      obtain ⟨f_298, l_298, u_298⟩ := z_add ex_298 rfl ti_110
                      try replace f_298 : x_298.toInt = x_7.toInt + 110 := by omega
                      clear l_298 u_298
                      obtain ⟨f_299, l_299, u_299⟩ := z_add ex_299 rfl rfl
                      try replace f_299 : x_299.toInt = x_298.toInt + (A_248 40 (x_7.toInt + 60 * x2.toInt + y_246.toInt + 230).toNat).toInt := by omega
                      clear l_299 u_299
                      show x_299.toInt = (x_7.toInt + (A_248 40 (x_7.toInt + 60 * x2.toInt + y_246.toInt + 230).toNat).toInt + 110)
                      omega
                    have hl_hr_300 : 110 ≤ (A_248 40 (x_7.toInt + 60 * x2.toInt + y_246.toInt + 230).toNat).toInt + 110 ∧ (A_248 40 (x_7.toInt + 60 * x2.toInt + y_246.toInt + 230).toNat).toInt + 110 ≤ 169 := by
                      omega
                    have hid_hr_300 : (x_7.toInt + (A_248 40 (x_7.toInt + 60 * x2.toInt + y_246.toInt + 230).toNat).toInt + 110) = x_7.toInt + ((A_248 40 (x_7.toInt + 60 * x2.toInt + y_246.toInt + 230).toNat).toInt + 110) := by simp only [Int.add_assoc, Int.add_sub_assoc]
                    have hr_300 := z_cell (lo := 45) (hi := 169) hbs_11 hi_hr_300 hid_hr_300 hl_hr_300 (by decide)
                    replace hid_hr_300 : zEq (x_7.toInt + (A_248 40 (x_7.toInt + 60 * x2.toInt + y_246.toInt + 230).toNat).toInt + 110) (x_7.toInt + ((A_248 40 (x_7.toInt + 60 * x2.toInt + y_246.toInt + 230).toNat).toInt + 110)) := hid_hr_300
                    have hin_301 : vp_in x_299 (zn K (zr K a0 0)) := vp_in_iff.mpr (by rw [(hf_8.2.2 (by decide))]; exact hr_300.in)
                    refine mst_40 C hM hs hP hS hf_8.1 hT hf_8.2.1 hin_301 (tp_45 hr_300) dX12_seat_181 (fun A_302 H locs hE_302 hT hP hS => ?_)
                    have ep_303 : x_299.toNatClampNeg = (x_7.toInt + (A_248 40 (x_7.toInt + 60 * x2.toInt + y_246.toInt + 230).toNat).toInt + 110).toNat := z_posE hi_hr_300
                    rw [ep_303] at hE_302
                    clear ep_303
                    have FA := frA FA (frAu hE_302) (by decide)
                    obtain ⟨x_304, ex_304⟩ : ∃ y : Int32, y = y_246 + 1 := ⟨_, rfl⟩
                    refine lv_iinc (v := x_304) (lv' := [(6, .int x_304), (7, .int (A_248 40 (x_7.toInt + 60 * x2.toInt + y_246.toInt + 230).toNat)), (5, .int (A 40 (x_7.toInt + x2.toInt + 35).toNat)), (4, .int x_7), (0, .ref a0), (1, .int x1), (2, .int x2), (3, .int x3)]) hx hb dX12_seat_182 hl (k := 1) rfl (by rw [ex_304]; rfl) (by decide) rfl (fun ls hl => ?_)
                    refine lv_goto (tgt := 92) hx hb dX12_seat_185 (by decide) ?_
                    have g_305 := z_rng y_246
                    obtain ⟨f_304, l_304, u_304⟩ := z_add ex_304 rfl ti_1
                    try replace f_304 : x_304.toInt = y_246.toInt + 1 := by omega
                    clear l_304 u_304
                    have g_306 := z_rng (A_248 40 (x_7.toInt + x2.toInt + 22).toNat)
                    have fs_307 : fC (A 40) (A_284 40) x_7.toInt ([(21, 21), (35, 38), (110, 169), (170, 229)] : List (Int × Int)) := fC.tr iv_248_1 (fC.s2 (lo := 170) (hi := 229) hE_284 hbs_11.lin.1 (by decide) (by omega)) (by decide)
                    have fs_308 : fC (A 40) (A_296 40) x_7.toInt ([(21, 21), (35, 38), (110, 169), (170, 229)] : List (Int × Int)) := fC.tr fs_307 (fC.s2 (lo := 21) (hi := 21) hE_296 hbs_11.lin.1 (by decide) (by omega)) (by decide)
                    have fs_309 : fC (A 40) (A_302 40) x_7.toInt ([(21, 21), (35, 38), (110, 169), (170, 229)] : List (Int × Int)) := fC.tr fs_308 (fC.s2 (lo := 110) (hi := 169) hE_302 hbs_11.lin.1 (by decide) (by omega)) (by decide)
                    have eu_310 : A_302 40 = upd (upd (upd (A_248 40) ((x_7.toInt + (A_248 40 (x_7.toInt + 21).toNat).toInt + 170).toNat) (A_248 40 (x_7.toInt + 60 * x2.toInt + y_246.toInt + 230).toNat)) ((x_7.toInt + 21).toNat) x_294) ((x_7.toInt + (A_248 40 (x_7.toInt + 60 * x2.toInt + y_246.toInt + 230).toNat).toInt + 110).toNat) 0 := by rw [hE_302, va_up_self, hE_296, va_up_self, hE_284, va_up_self]
                    exact ih_247 A_302 _ _ x_304 _ (by omega) (by omega) fs_309 (by rw [eu_310, pk_un (by omega), pk_us]; omega) (rK.app (c := A_248 40 (x_7.toInt + 60 * x2.toInt + y_246.toInt + 230).toNat) iv_248_3 tRq (by omega) (by omega) hbs_11.lin.1 eu_310 (by omega)) (Or.inr (by omega)) FA hT hP hS (lv_sub hl [0, 2, 3, 4, 5, 6, 7] rfl)
              have g_311 := z_rng (A 40 (x_7.toInt + 5).toNat)
              have g_312 := z_rng (A 40 (x_7.toInt + x2.toInt + 35).toNat)
              have g_313 := z_rng x3
              have g_314 := z_rng x_1
              have g_315 := z_rng x_4
              have tR0 := hT0.row hbs_11
              have t21 := tR0.p21
              have t43 := tR0.p43
              have hrow : rowOk (A 40) x_7.toInt N := by rw [hbo_174]; exact hp0.1 x1.toInt (by omega) (by omega)
              have hrs := hrow.1.1.1.2
              have hSg := hS_ge (C := A 40) (b := x_7.toInt) (s := x2.toInt) (by omega)
              have hmx : (A 40 (x_7.toInt + x2.toInt + 22).toNat).toInt ≤ mx (hd (A 40) x_7.toInt x2.toInt) := mx_le _
              have f35 : fC (A 40) (A_172 40) x_7.toInt [(35, 38)] := fC.s2 hE_172 hbs_11.lin.1 (by decide) (by omega)
              exact L_92_247 _ A_172 _ _ 0 _ (Nat.lt_succ_self _) (by (try simp only [ti_0]); omega) (fC.tr fC.rf f35 (by decide)) (by rw [f35.ar hbs_11.lin.1 (lo := 21) (hi := 21) (by decide) (x_7.toInt + 21) (by decide) (by omega) (by omega), ti_0]; omega) (rK.fw hrow.1.1.2.2 hbs_11.lin.1 f35 (wz_of f35 hbs_11.lin.1 (by decide)) tR0.p1.2 tR0.p21.2 (by decide) (by decide) (by decide)) (Or.inl (by rw [ti_0]; decide)) FA hT hP hS (lv_sub hl [0, 1, 2, 3, 4, 5, 6] rfl)
            · skip
              refine lv_iload hx hb dX12_seat_86 (lv_at hl 0 rfl) ?_
              exact maI hQ hx hb hr hlk hP hS ⟨hT, FA, FF, ⟨(aRc.mono (by omega)), (by exact cOk.fw (t := x1.toInt) hp0.2.1 (by omega) fcs_172 (by decide) (by decide) (by decide)), by omega, by omega⟩⟩ dX12_seat_88
      · skip
        refine lv_bipush (v := (-4)) hx hb dX12_seat_38 (by decide) ?_
        exact maI hQ hx hb hr hlk hP hS ⟨hT, FA, FF, ⟨(aRc.mono (by omega)), hp0.2.1, by omega, by omega⟩⟩ dX12_seat_40
    · skip
      replace pp_4 := pp_4.2 c_6
      refine lv_bipush (v := (-2)) hx hb dX12_seat_15 (by decide) ?_
      exact maI hQ hx hb hr hlk hP hS ⟨hT, FA, FF, ⟨(aRc.mono (by omega)), hp0.2.1, by omega, by omega⟩⟩ dX12_seat_17
