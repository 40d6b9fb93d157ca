set_option maxHeartbeats 4000000 in
set_option maxRecDepth 100000 in
theorem c_X12_doLay (l : Launch) (D : va_G) (K : zK) (hM : mK K) (f : Nat → Int32) (A : Nat → Nat → Int32) (hT : mT f A) (a0 : Nat) (ha0 : a0 ∈ zl K) (hk0 : zk K a0 = 11) (x1 : Int32) (x2 : Int32) (x3 : Int32) (x4 : Int32) (hp0 : zRow x1.toInt) (hp1 : 0 ≤ x3.toInt ∧ x3.toInt ≤ 3) (hp2 : 0 ≤ x4.toInt ∧ x4.toInt < (A 40 (x1.toInt + x3.toInt + 22).toNat).toInt) (hp3 : rowP (A 40) x1.toInt) (hp4 : nL (A 40) x1.toInt x3.toInt (A 40 (x1.toInt + 26).toNat).toInt) (hp5 : (f 11).toInt ≤ 1950000000) (hp6 : (f 9).toInt ≤ 1950000000) : Met l yX12_doLay (zc yX12_doLay cX12_doLay 7 none) (rmd 5) (va_Pc [.ref a0, .int x1, .int x2, .int x3, .int x4] (zB D K (mV K f A))) (mQv D K (fun f' A' => mT f' A' ∧ (∀ k, k ∉ ([40, 48, 50, 53, 55] : List Nat) → A' k = A k) ∧ (∀ k, k ∉ ([9, 11, 14, 16] : List Nat) → f' k = f k) ∧ fC (A 40) (A' 40) x1.toInt ([(5, 5), (9, 9), (14, 14), (15, 18), (19, 19), (20, 20), (22, 25), (26, 26), (27, 30), (31, 34), (39, 42), (43, 43), (110, 169), (230, 469), (470, 529), (530, 589), (590, 649), (650, 709), (710, 769), (770, 829), (830, 889)] : List (Int × Int)) ∧ wz (A 40) (A' 40) x1.toInt ∧ (f 9).toInt ≤ (f' 9).toInt ∧ (f' 9).toInt ≤ (f 9).toInt + 2 ∧ (f 11).toInt ≤ (f' 11).toInt ∧ (f' 11).toInt ≤ (f 11).toInt + 13 ∧ ((f 12).toInt ≠ 0 → (f' 11).toInt = (f 11).toInt) ∧ rowN (A' 40) x1.toInt)) 0 0 (zA K) := by
  refine zin (by decide) (Nat.le_of_ble_eq_true rfl) ?_
  intro p e s m args below meth c ls Q hQ C hr hlk hP hs hl
  have C : CallFix p m c cX12_doLay 7 s args zw RX12 := C
  obtain ⟨hx, hb, hml, hown, hts⟩ := id C
  have hO := hM.1
  have hS : va_S (zA K) s.heap s.heap [] := va_S.rf
  have FA : ∀ k, k ∉ ([40, 48, 50, 53, 55] : List Nat) → A k = A k := fun _ _ => rfl
  have FF : ∀ k, k ∉ ([9, 11, 14, 16] : List Nat) → f k = f k := fun _ _ => rfl
  have FC : fC (A 40) (A 40) x1.toInt ([(5, 5), (9, 9), (14, 14), (15, 18), (19, 19), (20, 20), (22, 25), (26, 26), (27, 30), (31, 34), (39, 42), (43, 43), (110, 169), (230, 469), (470, 529), (530, 589), (590, 649), (650, 709), (710, 769), (770, 829), (830, 889)] : List (Int × Int)) := fun _ _ _ => rfl
  have hl : lv_has ls 7 [(0, .ref a0), (1, .int x1), (2, .int x2), (3, .int x3), (4, .int x4)] := hl
  have hb0 := hp0.lin
  have tR0 := hT.row hp0
  have hSn := hS_nn (A 40) x1.toInt
  have t21 := tR0.p21
  have t26 := tR0.p26
  have t20 := tR0.p20
  have t43 := tR0.p43
  have hrs := hp3.1
  unfold rS at hrs
  have hSg := hS_ge (C := A 40) (b := x1.toInt) hp1
  have hmx := mx_le (hd (A 40) x1.toInt x3.toInt)
  have hhd : hd (A 40) x1.toInt x3.toInt = (A 40 (x1.toInt + x3.toInt + 22).toNat).toInt := rfl
  have h22 := tR0.p22 x3.toInt hp1.1 hp1.2
  have hly := dL.lt hp3.2.1 hp1 hp4 tR0.p31
  refine lv_aload_n hx hb dX12_doLay_0 rfl (lv_at hl 0 rfl) ?_
  refine mg_0 C hs hP ha0 hk0 wf_X12_8 dX12_doLay_1 ?_
  have hf_1 := hO.r (j := 0) ha0 hk0 (rfl : zX 11 0 = some (40, 47730))
  refine lv_iload_n hx hb dX12_doLay_4 rfl (lv_at hl 1 rfl) ?_
  refine lv_sipush (v := 230) hx hb dX12_doLay_5 (by decide) ?_
  refine lv_iadd hx hb dX12_doLay_8 ?_
  refine lv_topi (fun x_2 ex_2 => ?_)
  refine lv_bipush (v := 60) hx hb dX12_doLay_9 (by decide) ?_
  refine lv_iload_n hx hb dX12_doLay_11 rfl (lv_at hl 3 rfl) ?_
  refine lv_imul hx hb dX12_doLay_12 ?_
  refine lv_topi (fun x_3 ex_3 => ?_)
  refine lv_iadd hx hb dX12_doLay_13 ?_
  refine lv_topi (fun x_4 ex_4 => ?_)
  refine lv_iload hx hb dX12_doLay_14 (lv_at hl 4 rfl) ?_
  refine lv_iadd hx hb dX12_doLay_16 ?_
  refine lv_topi (fun x_5 ex_5 => ?_)
  have hi_hr_6 : zEq x_5.toInt (x1.toInt + 60 * x3.toInt + x4.toInt + 230) := by
    have g_7 := z_rng x1
    obtain ⟨f_2, l_2, u_2⟩ := z_add ex_2 rfl ti_230
    try replace f_2 : x_2.toInt = x1.toInt + 230 := by omega
    clear l_2 u_2
    have g_8 := z_rng x3
    obtain ⟨f_3, l_3, u_3⟩ := z_mul ex_3 ti_60 rfl
    try replace f_3 : x_3.toInt = 60 * x3.toInt := by omega
    clear l_3 u_3
    obtain ⟨f_4, l_4, u_4⟩ := z_add ex_4 rfl rfl
    try replace f_4 : x_4.toInt = x_2.toInt + x_3.toInt := by omega
    clear l_4 u_4
    have g_9 := z_rng x4
    obtain ⟨f_5, l_5, u_5⟩ := z_add ex_5 rfl rfl
    try replace f_5 : x_5.toInt = x_4.toInt + x4.toInt := by omega
    clear l_5 u_5
    show x_5.toInt = (x1.toInt + 60 * x3.toInt + x4.toInt + 230)
    omega
  have hl_hr_6 : 230 ≤ 60 * x3.toInt + x4.toInt + 230 ∧ 60 * x3.toInt + x4.toInt + 230 ≤ 469 := by
    have g_10 := z_rng x1
    have g_11 := z_rng x3
    have g_12 := z_rng x4
    omega
  have hid_hr_6 : (x1.toInt + 60 * x3.toInt + x4.toInt + 230) = x1.toInt + (60 * x3.toInt + x4.toInt + 230) := by simp only [Int.add_assoc, Int.add_sub_assoc]
  have hr_6 := z_cell (lo := 170) (hi := 469) hp0 hi_hr_6 hid_hr_6 hl_hr_6 (by decide)
  replace hid_hr_6 : zEq (x1.toInt + 60 * x3.toInt + x4.toInt + 230) (x1.toInt + (60 * x3.toInt + x4.toInt + 230)) := hid_hr_6
  have hin_13 : vp_in x_5 (zn K (zr K a0 0)) := vp_in_iff.mpr (by rw [(hf_1.2.2 (by decide))]; exact hr_6.in)
  refine mld_40 C hs hP hf_1.1 hf_1.2.1 hin_13 dX12_doLay_17 ?_
  have ep_14 : x_5.toNatClampNeg = (x1.toInt + 60 * x3.toInt + x4.toInt + 230).toNat := z_posE hi_hr_6
  rw [ep_14]
  have tv_15 := rv_170 hT hr_6
  rw [ep_14] at tv_15
  refine lv_istore (lv' := [(5, .int (A 40 (x1.toInt + 60 * x3.toInt + x4.toInt + 230).toNat)), (0, .ref a0), (1, .int x1), (2, .int x2), (3, .int x3), (4, .int x4)]) hx hb dX12_doLay_18 hl (by decide) rfl (fun ls hl => ?_)
  refine lv_aload_n hx hb dX12_doLay_20 rfl (lv_at hl 1 rfl) ?_
  refine mg_0 C hs hP ha0 hk0 wf_X12_8 dX12_doLay_21 ?_
  refine lv_iload_n hx hb dX12_doLay_24 rfl (lv_at hl 2 rfl) ?_
  refine lv_bipush (v := 22) hx hb dX12_doLay_25 (by decide) ?_
  refine lv_iadd hx hb dX12_doLay_27 ?_
  refine lv_topi (fun x_16 ex_16 => ?_)
  refine lv_iload_n hx hb dX12_doLay_28 rfl (lv_at hl 4 rfl) ?_
  refine lv_iadd hx hb dX12_doLay_29 ?_
  refine lv_topi (fun x_17 ex_17 => ?_)
  refine lv_dup2_11 hx hb dX12_doLay_30 rfl rfl ?_
  have hi_hr_18 : zEq x_17.toInt (x1.toInt + x3.toInt + 22) := by
    have g_19 := z_rng x1
    obtain ⟨f_16, l_16, u_16⟩ := z_add ex_16 rfl ti_22
    try replace f_16 : x_16.toInt = x1.toInt + 22 := by omega
    clear l_16 u_16
    have g_20 := z_rng x3
    obtain ⟨f_17, l_17, u_17⟩ := z_add ex_17 rfl rfl
    try replace f_17 : x_17.toInt = x_16.toInt + x3.toInt := by omega
    clear l_17 u_17
    show x_17.toInt = (x1.toInt + x3.toInt + 22)
    omega
  have hl_hr_18 : 22 ≤ x3.toInt + 22 ∧ x3.toInt + 22 ≤ 25 := by
    have g_21 := z_rng x1
    have g_22 := z_rng x3
    omega
  have hid_hr_18 : (x1.toInt + x3.toInt + 22) = x1.toInt + (x3.toInt + 22) := by simp only [Int.add_assoc, Int.add_sub_assoc]
  have hr_18 := z_cell (lo := 22) (hi := 25) hp0 hi_hr_18 hid_hr_18 hl_hr_18 (by decide)
  replace hid_hr_18 : zEq (x1.toInt + x3.toInt + 22) (x1.toInt + (x3.toInt + 22)) := hid_hr_18
  have hin_23 : vp_in x_17 (zn K (zr K a0 0)) := vp_in_iff.mpr (by rw [(hf_1.2.2 (by decide))]; exact hr_18.in)
  refine mld_40 C hs hP hf_1.1 hf_1.2.1 hin_23 dX12_doLay_31 ?_
  have ep_24 : x_17.toNatClampNeg = (x1.toInt + x3.toInt + 22).toNat := z_posE hi_hr_18
  rw [ep_24]
  have tv_25 := rv_22 hT hr_18
  rw [ep_24] at tv_25
  refine lv_iconst (v := 1) hx hb dX12_doLay_32 (by decide) ?_
  refine lv_isub hx hb dX12_doLay_33 ?_
  refine lv_topi (fun x_26 ex_26 => ?_)
  have hin_27 : vp_in x_17 (zn K (zr K a0 0)) := vp_in_iff.mpr (by rw [(hf_1.2.2 (by decide))]; exact hr_18.in)
  have g_29 := z_rng (A 40 (x1.toInt + x3.toInt + 22).toNat)
  obtain ⟨f_26, l_26, u_26⟩ := z_sub ex_26 rfl ti_1
  try replace f_26 : x_26.toInt = (A 40 (x1.toInt + x3.toInt + 22).toNat).toInt - 1 := by omega
  clear l_26 u_26
  refine mst_40 C hM hs hP hS hf_1.1 hT hf_1.2.1 hin_27 (tp_22 hr_18 (show -1 ≤ x_26.toInt ∧ x_26.toInt ≤ 60 from by omega)) dX12_doLay_34 (fun A_28 H locs hE_28 hT hP hS => ?_)
  have ep_30 : x_17.toNatClampNeg = (x1.toInt + x3.toInt + 22).toNat := z_posE hi_hr_18
  rw [ep_30] at hE_28
  have FA := frA FA (frAu hE_28) (by decide)
  have FC := fC.tr FC (fC.st (b := x1.toInt) (lo := 22) (hi := 25) hE_28 hb0.1 (by decide) hid_hr_18 hl_hr_18) (by decide)
  have WZ := wz.st WZ hE_28 (Or.inr (by omega))
  refine lv_iload hx hb dX12_doLay_35 (lv_at hl 5 rfl) ?_
  refine lv_istore (lv' := [(6, .int x4), (5, .int (A 40 (x1.toInt + 60 * x3.toInt + x4.toInt + 230).toNat)), (0, .ref a0), (1, .int x1), (2, .int x2), (3, .int x3), (4, .int x4)]) hx hb dX12_doLay_37 hl (by decide) rfl (fun ls hl => ?_)
  have L_39_32 : ∀ (n_32 : Nat) (A_33 : Nat → Nat → Int32) (H : Heap) (locs : List Loc) (y_31 : Int32) (ls : Array Slot), (2147483648 - y_31.toInt).toNat < n_32 → x4.toInt ≤ y_31.toInt → fC (A 40) (A_33 40) x1.toInt ([(22, 25), (230, 469)] : List (Int × Int)) → (A_33 40 (x1.toInt + x3.toInt + 22).toNat).toInt = (A 40 (x1.toInt + x3.toInt + 22).toNat).toInt - 1 → ∀ q : Int, 0 ≤ q → q ≤ 3 → q ≠ x3.toInt → A_33 40 (x1.toInt + q + 22).toNat = A 40 (x1.toInt + q + 22).toNat → (∀ k, k ∉ ([40, 48, 50, 53, 55] : List Nat) → A_33 k = A k) → fC (A 40) (A_33 40) x1.toInt ([(5, 5), (9, 9), (14, 14), (15, 18), (19, 19), (20, 20), (22, 25), (26, 26), (27, 30), (31, 34), (39, 42), (43, 43), (110, 169), (230, 469), (470, 529), (530, 589), (590, 649), (650, 709), (710, 769), (770, 829), (830, 889)] : List (Int × Int)) → wz (A 40) (A_33 40) x1.toInt → mT f A_33 → va_P D vwCl (zW K (mV K f A_33)) H → va_S (zA K) s.heap H locs → lv_has ls 7 [(6, .int y_31), (5, .int (A 40 (x1.toInt + 60 * x3.toInt + x4.toInt + 230).toNat)), (0, .ref a0), (1, .int x1), (2, .int x2), (3, .int x3), (4, .int x4)] → W p l e (rmd 5) s m args below meth c H locs 0 0 Q (F0 m 39 ls []) := by
    intro n_32
    induction n_32 with
    | zero => intro A_33 H locs y_31 ls hm_32; exact absurd hm_32 (Nat.not_lt_zero _)
    | succ n_32 ih_32 =>
      intro A_33 H locs y_31 ls hm_32 iv_33_0 iv_33_1 iv_33_2 iv_33_3 FA_33 FC_33 WZ_33 hT hP hS hl
      have FA := FA_33
      have FC := FC_33
      have WZ := WZ_33
      have e20q := iv_33_1.ar hb0.1 (lo := 20) (hi := 20) (by decide) (x1.toInt + 20) (by decide) (by omega) (by omega)
      have e20i := congrArg Int32.toInt e20q
      have e21q := iv_33_1.ar hb0.1 (lo := 21) (hi := 21) (by decide) (x1.toInt + 21) (by decide) (by omega) (by omega)
      have e21i := congrArg Int32.toInt e21q
      have e26q := iv_33_1.ar hb0.1 (lo := 26) (hi := 26) (by decide) (x1.toInt + 26) (by decide) (by omega) (by omega)
      have e26i := congrArg Int32.toInt e26q
      have e43q := iv_33_1.ar hb0.1 (lo := 43) (hi := 43) (by decide) (x1.toInt + 43) (by decide) (by omega) (by omega)
      have e43i := congrArg Int32.toInt e43q
      refine lv_iload hx hb dX12_doLay_39 (lv_at hl 0 rfl) ?_
      refine lv_aload_n hx hb dX12_doLay_41 rfl (lv_at hl 2 rfl) ?_
      refine mg_0 C hs hP ha0 hk0 wf_X12_8 dX12_doLay_42 ?_
      refine lv_iload_n hx hb dX12_doLay_45 rfl (lv_at hl 3 rfl) ?_
      refine lv_bipush (v := 22) hx hb dX12_doLay_46 (by decide) ?_
      refine lv_iadd hx hb dX12_doLay_48 ?_
      refine lv_topi (fun x_35 ex_35 => ?_)
      refine lv_iload_n hx hb dX12_doLay_49 rfl (lv_at hl 5 rfl) ?_
      refine lv_iadd hx hb dX12_doLay_50 ?_
      refine lv_topi (fun x_36 ex_36 => ?_)
      have hi_hr_37 : zEq x_36.toInt (x1.toInt + x3.toInt + 22) := by
        have g_38 := z_rng x1
        obtain ⟨f_35, l_35, u_35⟩ := z_add ex_35 rfl ti_22
        try replace f_35 : x_35.toInt = x1.toInt + 22 := by omega
        clear l_35 u_35
        have g_39 := z_rng x3
        obtain ⟨f_36, l_36, u_36⟩ := z_add ex_36 rfl rfl
        try replace f_36 : x_36.toInt = x_35.toInt + x3.toInt := by omega
        clear l_36 u_36
        show x_36.toInt = (x1.toInt + x3.toInt + 22)
        omega
      have hl_hr_37 : 22 ≤ x3.toInt + 22 ∧ x3.toInt + 22 ≤ 25 := by
        have g_40 := z_rng x1
        have g_41 := z_rng x3
        omega
      have hid_hr_37 : (x1.toInt + x3.toInt + 22) = x1.toInt + (x3.toInt + 22) := by simp only [Int.add_assoc, Int.add_sub_assoc]
      have hr_37 := z_cell (lo := 22) (hi := 25) hp0 hi_hr_37 hid_hr_37 hl_hr_37 (by decide)
      replace hid_hr_37 : zEq (x1.toInt + x3.toInt + 22) (x1.toInt + (x3.toInt + 22)) := hid_hr_37
      have hin_42 : vp_in x_36 (zn K (zr K a0 0)) := vp_in_iff.mpr (by rw [(hf_1.2.2 (by decide))]; exact hr_37.in)
      refine mld_40 C hs hP hf_1.1 hf_1.2.1 hin_42 dX12_doLay_51 ?_
      have ep_43 : x_36.toNatClampNeg = (x1.toInt + x3.toInt + 22).toNat := z_posE hi_hr_37
      rw [ep_43]
      have tv_44 := rv_22 hT hr_37
      rw [ep_43] at tv_44
      refine bi_ge (tgt := 99) hx hb rfl rfl dX12_doLay_52 (by decide) (fun c_45 => ?_) (fun c_45 => ?_)
      · skip
        refine lv_aload_n hx hb dX12_doLay_99 rfl (lv_at hl 2 rfl) ?_
        refine mg_17 C hs hP ha0 hk0 wf_X12_198 dX12_doLay_100 ?_
        refine lv_iconst (v := 1) hx hb dX12_doLay_103 (by decide) ?_
        refine bi_ne (tgt := 208) hx hb rfl ti_1 dX12_doLay_104 (by decide) (fun c_79 => ?_) (fun c_79 => ?_)
        · skip
          refine lv_aload_n hx hb dX12_doLay_208 rfl (lv_at hl 2 rfl) ?_
          refine mg_0 C hs hP ha0 hk0 wf_X12_8 dX12_doLay_209 ?_
          refine lv_iload_n hx hb dX12_doLay_212 rfl (lv_at hl 3 rfl) ?_
          refine lv_bipush (v := 14) hx hb dX12_doLay_213 (by decide) ?_
          refine lv_iadd hx hb dX12_doLay_215 ?_
          refine lv_topi (fun x_80 ex_80 => ?_)
          refine lv_iconst (v := 1) hx hb dX12_doLay_216 (by decide) ?_
          have hi_hr_81 : zEq x_80.toInt (x1.toInt + 14) := by
            have g_82 := z_rng x1
            obtain ⟨f_80, l_80, u_80⟩ := z_add ex_80 rfl ti_14
            try replace f_80 : x_80.toInt = x1.toInt + 14 := by omega
            clear l_80 u_80
            show x_80.toInt = (x1.toInt + 14)
            omega
          have hl_hr_81 : (14 : Int) ≤ 14 ∧ 14 ≤ (14 : Int) := by decide
          have hid_hr_81 : (x1.toInt + 14) = x1.toInt + (14) := by simp only [Int.add_assoc, Int.add_sub_assoc]
          have hr_81 := z_cell (lo := 10) (hi := 19) hp0 hi_hr_81 hid_hr_81 hl_hr_81 (by decide)
          replace hid_hr_81 : zEq (x1.toInt + 14) (x1.toInt + (14)) := hid_hr_81
          have hin_83 : vp_in x_80 (zn K (zr K a0 0)) := vp_in_iff.mpr (by rw [(hf_1.2.2 (by decide))]; exact hr_81.in)
          refine mst_40 C hM hs hP hS hf_1.1 hT hf_1.2.1 hin_83 (tp_10 hr_81) dX12_doLay_217 (fun A_84 H locs hE_84 hT hP hS => ?_)
          have ep_85 : x_80.toNatClampNeg = (x1.toInt + 14).toNat := z_posE hi_hr_81
          rw [ep_85] at hE_84
          have FA := frA FA (frAu hE_84) (by decide)
          have FC := fC.tr FC (fC.st (b := x1.toInt) (lo := 14) (hi := 14) hE_84 hb0.1 (by decide) hid_hr_81 hl_hr_81) (by decide)
          have WZ := wz.st WZ hE_84 (Or.inr (by omega))
          refine lv_aload_n hx hb dX12_doLay_218 rfl (lv_at hl 2 rfl) ?_
          refine mg_0 C hs hP ha0 hk0 wf_X12_8 dX12_doLay_219 ?_
          refine lv_iload_n hx hb dX12_doLay_222 rfl (lv_at hl 3 rfl) ?_
          refine lv_bipush (v := 27) hx hb dX12_doLay_223 (by decide) ?_
          refine lv_iadd hx hb dX12_doLay_225 ?_
          refine lv_topi (fun x_86 ex_86 => ?_)
          refine lv_aload_n hx hb dX12_doLay_226 rfl (lv_at hl 2 rfl) ?_
          refine mg_0 C hs hP ha0 hk0 wf_X12_8 dX12_doLay_227 ?_
          refine lv_iload_n hx hb dX12_doLay_230 rfl (lv_at hl 3 rfl) ?_
          refine lv_bipush (v := 26) hx hb dX12_doLay_231 (by decide) ?_
          refine lv_iadd hx hb dX12_doLay_233 ?_
          refine lv_topi (fun x_87 ex_87 => ?_)
          have hi_hr_88 : zEq x_87.toInt (x1.toInt + 26) := by
            have g_89 := z_rng x1
            obtain ⟨f_87, l_87, u_87⟩ := z_add ex_87 rfl ti_26
            try replace f_87 : x_87.toInt = x1.toInt + 26 := by omega
            clear l_87 u_87
            show x_87.toInt = (x1.toInt + 26)
            omega
          have hl_hr_88 : (26 : Int) ≤ 26 ∧ 26 ≤ (26 : Int) := by decide
          have hid_hr_88 : (x1.toInt + 26) = x1.toInt + (26) := by simp only [Int.add_assoc, Int.add_sub_assoc]
          have hr_88 := z_cell (lo := 26) (hi := 26) hp0 hi_hr_88 hid_hr_88 hl_hr_88 (by decide)
          replace hid_hr_88 : zEq (x1.toInt + 26) (x1.toInt + (26)) := hid_hr_88
          have hin_90 : vp_in x_87 (zn K (zr K a0 0)) := vp_in_iff.mpr (by rw [(hf_1.2.2 (by decide))]; exact hr_88.in)
          refine mld_40 C hs hP hf_1.1 hf_1.2.1 hin_90 dX12_doLay_234 ?_
          have ep_91 : x_87.toNatClampNeg = (x1.toInt + 26).toNat := z_posE hi_hr_88
          rw [ep_91]
          have g_93 := z_rng x1
          obtain ⟨f_87, l_87, u_87⟩ := z_add ex_87 rfl ti_26
          try replace f_87 : x_87.toInt = x1.toInt + 26 := by omega
          clear l_87 u_87
          obtain ⟨f_80, l_80, u_80⟩ := z_add ex_80 rfl ti_14
          try replace f_80 : x_80.toInt = x1.toInt + 14 := by omega
          clear l_80 u_80
          have hn_92 : (x1.toInt + 26).toNat ≠ (x1.toInt + 14).toNat := by omega
          have ev_94 : A_84 40 (x1.toInt + 26).toNat = A_33 40 (x1.toInt + 26).toNat := by rw [hE_84, va_up_self, pk_un hn_92]
          have tv_95 := rv_26 hT hr_88
          rw [ep_91] at tv_95
          rw [ev_94] at tv_95
          rw [ev_94]
          refine lv_iadd hx hb dX12_doLay_235 ?_
          refine lv_topi (fun x_96 ex_96 => ?_)
          refine lv_iload hx hb dX12_doLay_236 (lv_at hl 1 rfl) ?_
          have hi_hr_97 : zEq x_96.toInt (x1.toInt + (A_33 40 (x1.toInt + 26).toNat).toInt + 27) := by
            obtain ⟨f_86, l_86, u_86⟩ := z_add ex_86 rfl ti_27
            try replace f_86 : x_86.toInt = x1.toInt + 27 := by omega
            clear l_86 u_86
            have g_98 := z_rng (A_33 40 (x1.toInt + 26).toNat)
            obtain ⟨f_96, l_96, u_96⟩ := z_add ex_96 rfl rfl
            try replace f_96 : x_96.toInt = x_86.toInt + (A_33 40 (x1.toInt + 26).toNat).toInt := by omega
            clear l_96 u_96
            show x_96.toInt = (x1.toInt + (A_33 40 (x1.toInt + 26).toNat).toInt + 27)
            omega
          have hl_hr_97 : 27 ≤ (A_33 40 (x1.toInt + 26).toNat).toInt + 27 ∧ (A_33 40 (x1.toInt + 26).toNat).toInt + 27 ≤ 30 := by
            have g_99 := z_rng (A_33 40 (x1.toInt + 26).toNat)
            omega
          have hid_hr_97 : (x1.toInt + (A_33 40 (x1.toInt + 26).toNat).toInt + 27) = x1.toInt + ((A_33 40 (x1.toInt + 26).toNat).toInt + 27) := by simp only [Int.add_assoc, Int.add_sub_assoc]
          have hr_97 := z_cell (lo := 27) (hi := 30) hp0 hi_hr_97 hid_hr_97 hl_hr_97 (by decide)
          replace hid_hr_97 : zEq (x1.toInt + (A_33 40 (x1.toInt + 26).toNat).toInt + 27) (x1.toInt + ((A_33 40 (x1.toInt + 26).toNat).toInt + 27)) := hid_hr_97
          have hin_100 : vp_in x_96 (zn K (zr K a0 0)) := vp_in_iff.mpr (by rw [(hf_1.2.2 (by decide))]; exact hr_97.in)
          have g_102 := z_rng (A 40 (x1.toInt + 60 * x3.toInt + x4.toInt + 230).toNat)
          refine mst_40 C hM hs hP hS hf_1.1 hT hf_1.2.1 hin_100 (tp_27 hr_97 (show 0 ≤ (A 40 (x1.toInt + 60 * x3.toInt + x4.toInt + 230).toNat).toInt ∧ (A 40 (x1.toInt + 60 * x3.toInt + x4.toInt + 230).toNat).toInt ≤ 59 from by omega)) dX12_doLay_238 (fun A_101 H locs hE_101 hT hP hS => ?_)
          have ep_103 : x_96.toNatClampNeg = (x1.toInt + (A_33 40 (x1.toInt + 26).toNat).toInt + 27).toNat := z_posE hi_hr_97
          rw [ep_103] at hE_101
          have FA := frA FA (frAu hE_101) (by decide)
          have FC := fC.tr FC (fC.st (b := x1.toInt) (lo := 27) (hi := 30) hE_101 hb0.1 (by decide) hid_hr_97 hl_hr_97) (by decide)
          have WZ := wz.st WZ hE_101 (Or.inr (by omega))
          refine lv_aload_n hx hb dX12_doLay_239 rfl (lv_at hl 2 rfl) ?_
          refine mg_0 C hs hP ha0 hk0 wf_X12_8 dX12_doLay_240 ?_
          refine lv_iload_n hx hb dX12_doLay_243 rfl (lv_at hl 3 rfl) ?_
          refine lv_bipush (v := 31) hx hb dX12_doLay_244 (by decide) ?_
          refine lv_iadd hx hb dX12_doLay_246 ?_
          refine lv_topi (fun x_104 ex_104 => ?_)
          refine lv_aload_n hx hb dX12_doLay_247 rfl (lv_at hl 2 rfl) ?_
          refine mg_0 C hs hP ha0 hk0 wf_X12_8 dX12_doLay_248 ?_
          refine lv_iload_n hx hb dX12_doLay_251 rfl (lv_at hl 3 rfl) ?_
          refine lv_bipush (v := 26) hx hb dX12_doLay_252 (by decide) ?_
          refine lv_iadd hx hb dX12_doLay_254 ?_
          refine lv_topi (fun x_105 ex_105 => ?_)
          have hi_hr_106 : zEq x_105.toInt (x1.toInt + 26) := by
            obtain ⟨f_105, l_105, u_105⟩ := z_add ex_105 rfl ti_26
            try replace f_105 : x_105.toInt = x1.toInt + 26 := by omega
            clear l_105 u_105
            show x_105.toInt = (x1.toInt + 26)
            omega
          have hl_hr_106 : (26 : Int) ≤ 26 ∧ 26 ≤ (26 : Int) := by decide
          have hid_hr_106 : (x1.toInt + 26) = x1.toInt + (26) := by simp only [Int.add_assoc, Int.add_sub_assoc]
          have hr_106 := z_cell (lo := 26) (hi := 26) hp0 hi_hr_106 hid_hr_106 hl_hr_106 (by decide)
          replace hid_hr_106 : zEq (x1.toInt + 26) (x1.toInt + (26)) := hid_hr_106
          have hin_107 : vp_in x_105 (zn K (zr K a0 0)) := vp_in_iff.mpr (by rw [(hf_1.2.2 (by decide))]; exact hr_106.in)
          refine mld_40 C hs hP hf_1.1 hf_1.2.1 hin_107 dX12_doLay_255 ?_
          have ep_108 : x_105.toNatClampNeg = (x1.toInt + 26).toNat := z_posE hi_hr_106
          rw [ep_108]
          obtain ⟨f_105, l_105, u_105⟩ := z_add ex_105 rfl ti_26
          try replace f_105 : x_105.toInt = x1.toInt + 26 := by omega
          clear l_105 u_105
          obtain ⟨f_86, l_86, u_86⟩ := z_add ex_86 rfl ti_27
          try replace f_86 : x_86.toInt = x1.toInt + 27 := by omega
          clear l_86 u_86
          have g_110 := z_rng (A_33 40 (x1.toInt + 26).toNat)
          obtain ⟨f_96, l_96, u_96⟩ := z_add ex_96 rfl rfl
          try replace f_96 : x_96.toInt = x_86.toInt + (A_33 40 (x1.toInt + 26).toNat).toInt := by omega
          clear l_96 u_96
          have hn_109 : (x1.toInt + 26).toNat ≠ (x1.toInt + (A_33 40 (x1.toInt + 26).toNat).toInt + 27).toNat := by omega
          have hn_111 : (x1.toInt + 26).toNat ≠ (x1.toInt + 14).toNat := by omega
          have ev_112 : A_101 40 (x1.toInt + 26).toNat = A_33 40 (x1.toInt + 26).toNat := by rw [hE_101, va_up_self, pk_un hn_109, hE_84, va_up_self, pk_un hn_111]
          rw [ev_112]
          refine lv_iadd hx hb dX12_doLay_256 ?_
          refine lv_topi (fun x_113 ex_113 => ?_)
          refine lv_iload_n hx hb dX12_doLay_257 rfl (lv_at hl 5 rfl) ?_
          have hi_hr_114 : zEq x_113.toInt (x1.toInt + (A_33 40 (x1.toInt + 26).toNat).toInt + 31) := by
            obtain ⟨f_104, l_104, u_104⟩ := z_add ex_104 rfl ti_31
            try replace f_104 : x_104.toInt = x1.toInt + 31 := by omega
            clear l_104 u_104
            obtain ⟨f_113, l_113, u_113⟩ := z_add ex_113 rfl rfl
            try replace f_113 : x_113.toInt = x_104.toInt + (A_33 40 (x1.toInt + 26).toNat).toInt := by omega
            clear l_113 u_113
            show x_113.toInt = (x1.toInt + (A_33 40 (x1.toInt + 26).toNat).toInt + 31)
            omega
          have hl_hr_114 : 31 ≤ (A_33 40 (x1.toInt + 26).toNat).toInt + 31 ∧ (A_33 40 (x1.toInt + 26).toNat).toInt + 31 ≤ 34 := by
            omega
          have hid_hr_114 : (x1.toInt + (A_33 40 (x1.toInt + 26).toNat).toInt + 31) = x1.toInt + ((A_33 40 (x1.toInt + 26).toNat).toInt + 31) := by simp only [Int.add_assoc, Int.add_sub_assoc]
          have hr_114 := z_cell (lo := 31) (hi := 34) hp0 hi_hr_114 hid_hr_114 hl_hr_114 (by decide)
          replace hid_hr_114 : zEq (x1.toInt + (A_33 40 (x1.toInt + 26).toNat).toInt + 31) (x1.toInt + ((A_33 40 (x1.toInt + 26).toNat).toInt + 31)) := hid_hr_114
          have hin_115 : vp_in x_113 (zn K (zr K a0 0)) := vp_in_iff.mpr (by rw [(hf_1.2.2 (by decide))]; exact hr_114.in)
          have g_117 := z_rng x3
          refine mst_40 C hM hs hP hS hf_1.1 hT hf_1.2.1 hin_115 (tp_31 hr_114 (show 0 ≤ x3.toInt ∧ x3.toInt ≤ 3 from by omega)) dX12_doLay_258 (fun A_116 H locs hE_116 hT hP hS => ?_)
          have ep_118 : x_113.toNatClampNeg = (x1.toInt + (A_33 40 (x1.toInt + 26).toNat).toInt + 31).toNat := z_posE hi_hr_114
          rw [ep_118] at hE_116
          have FA := frA FA (frAu hE_116) (by decide)
          have FC := fC.tr FC (fC.st (b := x1.toInt) (lo := 31) (hi := 34) hE_116 hb0.1 (by decide) hid_hr_114 hl_hr_114) (by decide)
          have WZ := wz.st WZ hE_116 (Or.inr (by omega))
          refine lv_aload_n hx hb dX12_doLay_259 rfl (lv_at hl 2 rfl) ?_
          refine mg_0 C hs hP ha0 hk0 wf_X12_8 dX12_doLay_260 ?_
          refine lv_iload_n hx hb dX12_doLay_263 rfl (lv_at hl 3 rfl) ?_
          refine lv_bipush (v := 26) hx hb dX12_doLay_264 (by decide) ?_
          refine lv_iadd hx hb dX12_doLay_266 ?_
          refine lv_topi (fun x_119 ex_119 => ?_)
          refine lv_dup2_11 hx hb dX12_doLay_267 rfl rfl ?_
          have hi_hr_120 : zEq x_119.toInt (x1.toInt + 26) := by
            obtain ⟨f_119, l_119, u_119⟩ := z_add ex_119 rfl ti_26
            try replace f_119 : x_119.toInt = x1.toInt + 26 := by omega
            clear l_119 u_119
            show x_119.toInt = (x1.toInt + 26)
            omega
          have hl_hr_120 : (26 : Int) ≤ 26 ∧ 26 ≤ (26 : Int) := by decide
          have hid_hr_120 : (x1.toInt + 26) = x1.toInt + (26) := by simp only [Int.add_assoc, Int.add_sub_assoc]
          have hr_120 := z_cell (lo := 26) (hi := 26) hp0 hi_hr_120 hid_hr_120 hl_hr_120 (by decide)
          replace hid_hr_120 : zEq (x1.toInt + 26) (x1.toInt + (26)) := hid_hr_120
          have hin_121 : vp_in x_119 (zn K (zr K a0 0)) := vp_in_iff.mpr (by rw [(hf_1.2.2 (by decide))]; exact hr_120.in)
          refine mld_40 C hs hP hf_1.1 hf_1.2.1 hin_121 dX12_doLay_268 ?_
          have ep_122 : x_119.toNatClampNeg = (x1.toInt + 26).toNat := z_posE hi_hr_120
          rw [ep_122]
          obtain ⟨f_119, l_119, u_119⟩ := z_add ex_119 rfl ti_26
          try replace f_119 : x_119.toInt = x1.toInt + 26 := by omega
          clear l_119 u_119
          obtain ⟨f_104, l_104, u_104⟩ := z_add ex_104 rfl ti_31
          try replace f_104 : x_104.toInt = x1.toInt + 31 := by omega
          clear l_104 u_104
          obtain ⟨f_113, l_113, u_113⟩ := z_add ex_113 rfl rfl
          try replace f_113 : x_113.toInt = x_104.toInt + (A_33 40 (x1.toInt + 26).toNat).toInt := by omega
          clear l_113 u_113
          have hn_123 : (x1.toInt + 26).toNat ≠ (x1.toInt + (A_33 40 (x1.toInt + 26).toNat).toInt + 31).toNat := by omega
          have hn_124 : (x1.toInt + 26).toNat ≠ (x1.toInt + (A_33 40 (x1.toInt + 26).toNat).toInt + 27).toNat := by omega
          have hn_125 : (x1.toInt + 26).toNat ≠ (x1.toInt + 14).toNat := by omega
          have ev_126 : A_116 40 (x1.toInt + 26).toNat = A_33 40 (x1.toInt + 26).toNat := by rw [hE_116, va_up_self, pk_un hn_123, hE_101, va_up_self, pk_un hn_124, hE_84, va_up_self, pk_un hn_125]
          rw [ev_126]
          refine lv_iconst (v := 1) hx hb dX12_doLay_269 (by decide) ?_
          refine lv_iadd hx hb dX12_doLay_270 ?_
          refine lv_topi (fun x_127 ex_127 => ?_)
          have hin_128 : vp_in x_119 (zn K (zr K a0 0)) := vp_in_iff.mpr (by rw [(hf_1.2.2 (by decide))]; exact hr_120.in)
          obtain ⟨f_127, l_127, u_127⟩ := z_add ex_127 rfl ti_1
          try replace f_127 : x_127.toInt = (A_33 40 (x1.toInt + 26).toNat).toInt + 1 := by omega
          clear l_127 u_127
          refine mst_40 C hM hs hP hS hf_1.1 hT hf_1.2.1 hin_128 (tp_26 hr_120 (show 0 ≤ x_127.toInt ∧ x_127.toInt ≤ 4 from by omega)) dX12_doLay_271 (fun A_129 H locs hE_129 hT hP hS => ?_)
          have ep_130 : x_119.toNatClampNeg = (x1.toInt + 26).toNat := z_posE hi_hr_120
          rw [ep_130] at hE_129
          have FA := frA FA (frAu hE_129) (by decide)
          have FC := fC.tr FC (fC.st (b := x1.toInt) (lo := 26) (hi := 26) hE_129 hb0.1 (by decide) hid_hr_120 hl_hr_120) (by decide)
          have WZ := wz.st WZ hE_129 (Or.inr (by omega))
          refine lv_aload_n hx hb dX12_doLay_272 rfl (lv_at hl 2 rfl) ?_
          refine mg_0 C hs hP ha0 hk0 wf_X12_8 dX12_doLay_273 ?_
          refine lv_iload_n hx hb dX12_doLay_276 rfl (lv_at hl 3 rfl) ?_
          refine lv_bipush (v := 110) hx hb dX12_doLay_277 (by decide) ?_
          refine lv_iadd hx hb dX12_doLay_279 ?_
          refine lv_topi (fun x_131 ex_131 => ?_)
          refine lv_iload hx hb dX12_doLay_280 (lv_at hl 1 rfl) ?_
          refine lv_iadd hx hb dX12_doLay_282 ?_
          refine lv_topi (fun x_132 ex_132 => ?_)
          refine lv_iconst (v := 5) hx hb dX12_doLay_283 (by decide) ?_
          have hi_hr_133 : zEq x_132.toInt (x1.toInt + (A 40 (x1.toInt + 60 * x3.toInt + x4.toInt + 230).toNat).toInt + 110) := by
            obtain ⟨f_131, l_131, u_131⟩ := z_add ex_131 rfl ti_110
            try replace f_131 : x_131.toInt = x1.toInt + 110 := by omega
            clear l_131 u_131
            obtain ⟨f_132, l_132, u_132⟩ := z_add ex_132 rfl rfl
            try replace f_132 : x_132.toInt = x_131.toInt + (A 40 (x1.toInt + 60 * x3.toInt + x4.toInt + 230).toNat).toInt := by omega
            clear l_132 u_132
            show x_132.toInt = (x1.toInt + (A 40 (x1.toInt + 60 * x3.toInt + x4.toInt + 230).toNat).toInt + 110)
            omega
          have hl_hr_133 : 110 ≤ (A 40 (x1.toInt + 60 * x3.toInt + x4.toInt + 230).toNat).toInt + 110 ∧ (A 40 (x1.toInt + 60 * x3.toInt + x4.toInt + 230).toNat).toInt + 110 ≤ 169 := by
            omega
          have hid_hr_133 : (x1.toInt + (A 40 (x1.toInt + 60 * x3.toInt + x4.toInt + 230).toNat).toInt + 110) = x1.toInt + ((A 40 (x1.toInt + 60 * x3.toInt + x4.toInt + 230).toNat).toInt + 110) := by simp only [Int.add_assoc, Int.add_sub_assoc]
          have hr_133 := z_cell (lo := 45) (hi := 169) hp0 hi_hr_133 hid_hr_133 hl_hr_133 (by decide)
          replace hid_hr_133 : zEq (x1.toInt + (A 40 (x1.toInt + 60 * x3.toInt + x4.toInt + 230).toNat).toInt + 110) (x1.toInt + ((A 40 (x1.toInt + 60 * x3.toInt + x4.toInt + 230).toNat).toInt + 110)) := hid_hr_133
          have hin_134 : vp_in x_132 (zn K (zr K a0 0)) := vp_in_iff.mpr (by rw [(hf_1.2.2 (by decide))]; exact hr_133.in)
          refine mst_40 C hM hs hP hS hf_1.1 hT hf_1.2.1 hin_134 (tp_45 hr_133) dX12_doLay_284 (fun A_135 H locs hE_135 hT hP hS => ?_)
          have ep_136 : x_132.toNatClampNeg = (x1.toInt + (A 40 (x1.toInt + 60 * x3.toInt + x4.toInt + 230).toNat).toInt + 110).toNat := z_posE hi_hr_133
          rw [ep_136] at hE_135
          have FA := frA FA (frAu hE_135) (by decide)
          have FC := fC.tr FC (fC.st (b := x1.toInt) (lo := 110) (hi := 169) hE_135 hb0.1 (by decide) hid_hr_133 hl_hr_133) (by decide)
          have WZ := wz.st WZ hE_135 (Or.inl (by rw [ti_5]; decide))
          refine lv_aload_n hx hb dX12_doLay_285 rfl (lv_at hl 2 rfl) ?_
          refine lv_iload_n hx hb dX12_doLay_286 rfl (lv_at hl 3 rfl) ?_
          refine lv_iload_n hx hb dX12_doLay_287 rfl (lv_at hl 5 rfl) ?_
          refine lv_aload_n hx hb dX12_doLay_288 rfl (lv_at hl 2 rfl) ?_
          refine lv_iload_n hx hb dX12_doLay_289 rfl (lv_at hl 3 rfl) ?_
          refine lv_iload hx hb dX12_doLay_290 (lv_at hl 1 rfl) ?_
          have hq_137 : 0 ≤ (A 40 (x1.toInt + 60 * x3.toInt + x4.toInt + 230).toNat).toInt ∧ (A 40 (x1.toInt + 60 * x3.toInt + x4.toInt + 230).toNat).toInt ≤ 59 := by (first | assumption | omega | (intros; omega))
          refine zcS (zrV (As := [.int x1, .int (A 40 (x1.toInt + 60 * x3.toInt + x4.toInt + 230).toNat)]) (b := a0) (rest := [.int x3, .int x1, .ref a0]) C hs hP hS (c_X12_colour l D K hM f A_135 hT a0 ha0 hk0 x1 (A 40 (x1.toInt + 60 * x3.toInt + x4.toInt + 230).toNat) hp0 hq_137) m_X12_colour wm_X12_120 (zrecv hs hP ha0 (zF_11 hk0) rfl) ⟨by decide, by decide⟩ hl.1 (Nat.le_of_ble_eq_true rfl) dX12_doLay_292) (fun x_138 p_138 => ?_)
          have pp_138 : x_138 = mcol (A_135 40) x1 (A 40 (x1.toInt + 60 * x3.toInt + x4.toInt + 230).toNat) := p_138
          have pq_138 := congrArg Int32.toInt pp_138
          have g_139 := z_rng x_138
          have hq_140 : 0 ≤ x3.toInt ∧ x3.toInt ≤ 3 := by (first | assumption | omega | (intros; omega))
          refine mcV (zrV (As := [.int x1, .int x3, .int x_138]) (b := a0) (rest := []) C hs hP hS (c_X12_showFound l D K hM f A_135 hT a0 ha0 hk0 x1 x3 x_138 hp0 hq_140) m_X12_showFound wm_X12_214 (zrecv hs hP ha0 (zF_11 hk0) rfl) ⟨by decide, by decide⟩ hl.1 (Nat.le_of_ble_eq_true rfl) dX12_doLay_295) hS (fun f_141 A_141 H locs p_141 hP hS => ?_)
          obtain ⟨hT, hA_141, hF_141, hC_141, hW_141⟩ := p_141
          have FA := frA FA hA_141 (by decide)
          have FF := frF FF hF_141 (by decide)
          have FC := fC.tr FC hC_141 (by decide)
          have WZ := wz.tr WZ hW_141
          refine lv_aload_n hx hb dX12_doLay_298 rfl (lv_at hl 2 rfl) ?_
          refine mg_0 C hs hP ha0 hk0 wf_X12_8 dX12_doLay_299 ?_
          refine lv_iload_n hx hb dX12_doLay_302 rfl (lv_at hl 3 rfl) ?_
          refine lv_bipush (v := 9) hx hb dX12_doLay_303 (by decide) ?_
          refine lv_iadd hx hb dX12_doLay_305 ?_
          refine lv_topi (fun x_142 ex_142 => ?_)
          refine lv_aload_n hx hb dX12_doLay_306 rfl (lv_at hl 2 rfl) ?_
          refine lv_iload_n hx hb dX12_doLay_307 rfl (lv_at hl 3 rfl) ?_
          refine lv_iload_n hx hb dX12_doLay_308 rfl (lv_at hl 5 rfl) ?_
          refine lv_iconst (v := 1) hx hb dX12_doLay_309 (by decide) ?_
          refine lv_iadd hx hb dX12_doLay_310 ?_
          refine lv_topi (fun x_143 ex_143 => ?_)
          refine lv_iconst (v := 4) hx hb dX12_doLay_311 (by decide) ?_
          refine lv_irem hx hb dX12_doLay_312 (by decide) ?_
          refine lv_topi (fun x_144 ex_144 => ?_)
          obtain ⟨f_143, l_143, u_143⟩ := z_add ex_143 rfl ti_1
          try replace f_143 : x_143.toInt = x3.toInt + 1 := by omega
          clear l_143 u_143
          have f_144 := z_rem ex_144 rfl ti_4 (by decide)
          have hq_145 : 0 ≤ x_144.toInt ∧ x_144.toInt ≤ 4 := by (first | assumption | omega | (intros; omega))
          refine zcS (zrV (As := [.int x1, .int x_144]) (b := a0) (rest := [.int x_142, .ref (zr K a0 0)]) C hs hP hS (c_X12_seatFrom l D K hM f_141 A_141 hT a0 ha0 hk0 x1 x_144 hp0 hq_145) m_X12_seatFrom wm_X12_162 (zrecv hs hP ha0 (zF_11 hk0) rfl) ⟨by decide, by decide⟩ hl.1 (Nat.le_of_ble_eq_true rfl) dX12_doLay_313) (fun x_146 p_146 => ?_)
          have pp_146 : (x_146.toInt = -1 ∨ (0 ≤ x_146.toInt ∧ x_146.toInt ≤ 3 ∧ 1 ≤ (A_141 40 (x1.toInt + x_146.toInt + 22).toNat).toInt ∧ nL (A_141 40) x1.toInt x_146.toInt (A_141 40 (x1.toInt + 26).toNat).toInt)) := p_146
          have tRs := hT.row hp0
          have FCs := FC
          have WZs := WZ
          have rq_147 : ∀ j : Int, x1.toInt + 22 ≤ j → j ≤ x1.toInt + 25 → A_141 40 j.toNat = A_33 40 j.toNat := fun j h1 h2 => by rw [hC_141.ar hb0.1 (lo := 22) (hi := 25) (by decide) j (by decide) (by omega) (by omega), hE_135, va_up_self, pk_un (show j.toNat ≠ (x1.toInt + (A 40 (x1.toInt + 60 * x3.toInt + x4.toInt + 230).toNat).toInt + 110).toNat by omega), hE_129, va_up_self, pk_un (show j.toNat ≠ (x1.toInt + 26).toNat by omega), hE_116, va_up_self, pk_un (show j.toNat ≠ (x1.toInt + (A_33 40 (x1.toInt + 26).toNat).toInt + 31).toNat by omega), hE_101, va_up_self, pk_un (show j.toNat ≠ (x1.toInt + (A_33 40 (x1.toInt + 26).toNat).toInt + 27).toNat by omega), hE_84, va_up_self, pk_un (show j.toNat ≠ (x1.toInt + 14).toNat by omega)]
          obtain ⟨f_131, l_131, u_131⟩ := z_add ex_131 rfl ti_110
          try replace f_131 : x_131.toInt = x1.toInt + 110 := by omega
          clear l_131 u_131
          obtain ⟨f_132, l_132, u_132⟩ := z_add ex_132 rfl rfl
          try replace f_132 : x_132.toInt = x_131.toInt + (A 40 (x1.toInt + 60 * x3.toInt + x4.toInt + 230).toNat).toInt := by omega
          clear l_132 u_132
          have es_148 : A_141 40 (x1.toInt + 26).toNat = x_127 := by rw [hC_141 (x1.toInt + 26) (by omega) (by simp only [List.mem_cons, List.not_mem_nil, or_false, forall_eq_or_imp, forall_eq]; omega), hE_135, va_up_self, pk_un (show (x1.toInt + 26).toNat ≠ (x1.toInt + (A 40 (x1.toInt + 60 * x3.toInt + x4.toInt + 230).toNat).toInt + 110).toNat by omega), hE_129, va_up_self, pk_us]
          have es_149 : A_141 40 (x1.toInt + 20).toNat = A_33 40 (x1.toInt + 20).toNat := by rw [hC_141 (x1.toInt + 20) (by omega) (by simp only [List.mem_cons, List.not_mem_nil, or_false, forall_eq_or_imp, forall_eq]; omega), hE_135, va_up_self, pk_un (show (x1.toInt + 20).toNat ≠ (x1.toInt + (A 40 (x1.toInt + 60 * x3.toInt + x4.toInt + 230).toNat).toInt + 110).toNat by omega), hE_129, va_up_self, pk_un (show (x1.toInt + 20).toNat ≠ (x1.toInt + 26).toNat by omega), hE_116, va_up_self, pk_un (show (x1.toInt + 20).toNat ≠ (x1.toInt + (A_33 40 (x1.toInt + 26).toNat).toInt + 31).toNat by omega), hE_101, va_up_self, pk_un (show (x1.toInt + 20).toNat ≠ (x1.toInt + (A_33 40 (x1.toInt + 26).toNat).toInt + 27).toNat by omega), hE_84, va_up_self, pk_un (show (x1.toInt + 20).toNat ≠ (x1.toInt + 14).toNat by omega)]
          have es_150 : A_141 40 (x1.toInt + 43).toNat = A_33 40 (x1.toInt + 43).toNat := by rw [hC_141 (x1.toInt + 43) (by omega) (by simp only [List.mem_cons, List.not_mem_nil, or_false, forall_eq_or_imp, forall_eq]; omega), hE_135, va_up_self, pk_un (show (x1.toInt + 43).toNat ≠ (x1.toInt + (A 40 (x1.toInt + 60 * x3.toInt + x4.toInt + 230).toNat).toInt + 110).toNat by omega), hE_129, va_up_self, pk_un (show (x1.toInt + 43).toNat ≠ (x1.toInt + 26).toNat by omega), hE_116, va_up_self, pk_un (show (x1.toInt + 43).toNat ≠ (x1.toInt + (A_33 40 (x1.toInt + 26).toNat).toInt + 31).toNat by omega), hE_101, va_up_self, pk_un (show (x1.toInt + 43).toNat ≠ (x1.toInt + (A_33 40 (x1.toInt + 26).toNat).toInt + 27).toNat by omega), hE_84, va_up_self, pk_un (show (x1.toInt + 43).toNat ≠ (x1.toInt + 14).toNat by omega)]
          have rKs := hp3.2.2.fw hb0.1 FC WZ tR0.p1.2 tR0.p21.2 (by decide) (by decide) (by decide)
          have e21s := FC.ar hb0.1 (lo := 21) (hi := 21) (by decide) (x1.toInt + 21) (by decide) (by omega) (by omega)
          have els : ∀ i : Int, 0 ≤ i → i < (A 40 (x1.toInt + 26).toNat).toInt → A_141 40 (x1.toInt + i + 31).toNat = A 40 (x1.toInt + i + 31).toNat := fun i h1 h2 => by
            rw [hC_141.ar hb0.1 (lo := 31) (hi := 34) (by decide) (x1.toInt + i + 31) (by decide) (by omega) (by omega), hE_135, va_up_self, pk_un (show (x1.toInt + i + 31).toNat ≠ (x1.toInt + (A 40 (x1.toInt + 60 * x3.toInt + x4.toInt + 230).toNat).toInt + 110).toNat by omega), hE_129, va_up_self, pk_un (show (x1.toInt + i + 31).toNat ≠ (x1.toInt + 26).toNat by omega), hE_116, va_up_self, pk_un (show (x1.toInt + i + 31).toNat ≠ (x1.toInt + (A_33 40 (x1.toInt + 26).toNat).toInt + 31).toNat by omega), hE_101, va_up_self, pk_un (show (x1.toInt + i + 31).toNat ≠ (x1.toInt + (A_33 40 (x1.toInt + 26).toNat).toInt + 27).toNat by omega), hE_84, va_up_self, pk_un (show (x1.toInt + i + 31).toNat ≠ (x1.toInt + 14).toNat by omega)]
            exact iv_33_1.ar hb0.1 (lo := 31) (hi := 34) (by decide) (x1.toInt + i + 31) (by decide) (by omega) (by omega)
          have ens : (A_141 40 (x1.toInt + (A 40 (x1.toInt + 26).toNat).toInt + 31).toNat).toInt = x3.toInt := by
            rw [← e26q]
            rw [hC_141.ar hb0.1 (lo := 31) (hi := 34) (by decide) (x1.toInt + (A_33 40 (x1.toInt + 26).toNat).toInt + 31) (by decide) (by omega) (by omega), hE_135, va_up_self, pk_un (show (x1.toInt + (A_33 40 (x1.toInt + 26).toNat).toInt + 31).toNat ≠ (x1.toInt + (A 40 (x1.toInt + 60 * x3.toInt + x4.toInt + 230).toNat).toInt + 110).toNat by omega), hE_129, va_up_self, pk_un (show (x1.toInt + (A_33 40 (x1.toInt + 26).toNat).toInt + 31).toNat ≠ (x1.toInt + 26).toNat by omega), hE_116, va_up_self, pk_us]
          have rPs := rowP.dl (C1 := A_141 40) hp3 tR0 hp1 hp4 (by omega) (by unfold hd; rw [rq_147 (x1.toInt + x3.toInt + 22) (by omega) (by omega)]; exact iv_33_2) (fun q9 h1 h2 h3 => by unfold hd; rw [rq_147 (x1.toInt + q9 + 22) (by omega) (by omega), iv_33_3 q9 h1 h2 h3]) (by rw [e21s]) (by rw [es_149, e20q]) (by rw [es_148]; omega) (by rw [es_150]; omega) els ens rKs
          have hi_hr_151 : zEq x_142.toInt (x1.toInt + 9) := by
            obtain ⟨f_142, l_142, u_142⟩ := z_add ex_142 rfl ti_9
            try replace f_142 : x_142.toInt = x1.toInt + 9 := by omega
            clear l_142 u_142
            show x_142.toInt = (x1.toInt + 9)
            omega
          have hl_hr_151 : (9 : Int) ≤ 9 ∧ 9 ≤ (9 : Int) := by decide
          have hid_hr_151 : (x1.toInt + 9) = x1.toInt + (9) := by simp only [Int.add_assoc, Int.add_sub_assoc]
          have hr_151 := z_cell (lo := 9) (hi := 9) hp0 hi_hr_151 hid_hr_151 hl_hr_151 (by decide)
          replace hid_hr_151 : zEq (x1.toInt + 9) (x1.toInt + (9)) := hid_hr_151
          have hin_152 : vp_in x_142 (zn K (zr K a0 0)) := vp_in_iff.mpr (by rw [(hf_1.2.2 (by decide))]; exact hr_151.in)
          have g_154 := z_rng x_146
          refine mst_40 C hM hs hP hS hf_1.1 hT hf_1.2.1 hin_152 (tp_9 hr_151 (show -1 ≤ x_146.toInt ∧ x_146.toInt ≤ 3 from by omega)) dX12_doLay_316 (fun A_153 H locs hE_153 hT hP hS => ?_)
          have ep_155 : x_142.toNatClampNeg = (x1.toInt + 9).toNat := z_posE hi_hr_151
          rw [ep_155] at hE_153
          have FA := frA FA (frAu hE_153) (by decide)
          have FC := fC.tr FC (fC.st (b := x1.toInt) (lo := 9) (hi := 9) hE_153 hb0.1 (by decide) hid_hr_151 hl_hr_151) (by decide)
          have WZ := wz.st WZ hE_153 (Or.inr (by omega))
          have hRN := rowN.nx rPs tRs hb0.1 hE_153 pp_146
          refine lv_aload_n hx hb dX12_doLay_317 rfl (lv_at hl 2 rfl) ?_
          refine mg_0 C hs hP ha0 hk0 wf_X12_8 dX12_doLay_318 ?_
          refine lv_iload_n hx hb dX12_doLay_321 rfl (lv_at hl 3 rfl) ?_
          refine lv_bipush (v := 9) hx hb dX12_doLay_322 (by decide) ?_
          refine lv_iadd hx hb dX12_doLay_324 ?_
          refine lv_topi (fun x_156 ex_156 => ?_)
          have hi_hr_157 : zEq x_156.toInt (x1.toInt + 9) := by
            obtain ⟨f_156, l_156, u_156⟩ := z_add ex_156 rfl ti_9
            try replace f_156 : x_156.toInt = x1.toInt + 9 := by omega
            clear l_156 u_156
            show x_156.toInt = (x1.toInt + 9)
            omega
          have hl_hr_157 : (9 : Int) ≤ 9 ∧ 9 ≤ (9 : Int) := by decide
          have hid_hr_157 : (x1.toInt + 9) = x1.toInt + (9) := by simp only [Int.add_assoc, Int.add_sub_assoc]
          have hr_157 := z_cell (lo := 9) (hi := 9) hp0 hi_hr_157 hid_hr_157 hl_hr_157 (by decide)
          replace hid_hr_157 : zEq (x1.toInt + 9) (x1.toInt + (9)) := hid_hr_157
          have hin_158 : vp_in x_156 (zn K (zr K a0 0)) := vp_in_iff.mpr (by rw [(hf_1.2.2 (by decide))]; exact hr_157.in)
          refine mld_40 C hs hP hf_1.1 hf_1.2.1 hin_158 dX12_doLay_325 ?_
          have ep_159 : x_156.toNatClampNeg = (x1.toInt + 9).toNat := z_posE hi_hr_157
          rw [ep_159]
          have ev_160 : A_153 40 (x1.toInt + 9).toNat = x_146 := by rw [hE_153, va_up_self, pk_us]
          have tv_161 := rv_9 hT hr_157
          rw [ep_159] at tv_161
          rw [ev_160] at tv_161
          rw [ev_160]
          refine lv_iconst (v := (-1)) hx hb dX12_doLay_326 (by decide) ?_
          refine bi_ne (tgt := 336) hx hb rfl ti_m1 dX12_doLay_327 (by decide) (fun c_162 => ?_) (fun c_162 => ?_)
          · skip
            have ev_163 : f_141 9 = f 9 := by rw [hF_141 9 (by decide)]
            have ev_164 : f_141 11 = f 11 := by rw [hF_141 11 (by decide)]
            exact maV hQ hx hb hr hlk hP hS ⟨hT, FA, FF, FC, WZ, ⟨by rw [ev_163] <;> omega, by rw [ev_163] <;> omega, by rw [ev_164] <;> omega, by rw [ev_164] <;> omega, fun h9 => by rw [ev_164] <;> omega, hRN⟩⟩ dX12_doLay_336
          · skip
            refine lv_aload_n hx hb dX12_doLay_330 rfl (lv_at hl 2 rfl) ?_
            refine lv_iload_n hx hb dX12_doLay_331 rfl (lv_at hl 3 rfl) ?_
            refine lv_iload_n hx hb dX12_doLay_332 rfl (lv_at hl 4 rfl) ?_
            have g_165 := z_rng x2
            have hq_166 : rowP (A_153 40) x1.toInt := by exact hRN.1
            obtain ⟨f_142, l_142, u_142⟩ := z_add ex_142 rfl ti_9
            try replace f_142 : x_142.toInt = x1.toInt + 9 := by omega
            clear l_142 u_142
            have es_168 : A_153 40 (x1.toInt + 26).toNat = x_127 := by rw [hE_153, va_up_self, pk_un (show (x1.toInt + 26).toNat ≠ (x1.toInt + 9).toNat by omega), hC_141 (x1.toInt + 26) (by omega) (by simp only [List.mem_cons, List.not_mem_nil, or_false, forall_eq_or_imp, forall_eq]; omega), hE_135, va_up_self, pk_un (show (x1.toInt + 26).toNat ≠ (x1.toInt + (A 40 (x1.toInt + 60 * x3.toInt + x4.toInt + 230).toNat).toInt + 110).toNat by omega), hE_129, va_up_self, pk_us]
            have hq_167 : 1 ≤ (A_153 40 (x1.toInt + 26).toNat).toInt := by rw [es_168] <;> (first | assumption | omega | (intros; omega))
            have ev_170 : f_141 11 = f 11 := by rw [hF_141 11 (by decide)]
            have hq_169 : (f_141 11).toInt ≤ 1960000000 := by rw [ev_170] <;> (first | assumption | omega | (intros; omega))
            have ev_172 : f_141 9 = f 9 := by rw [hF_141 9 (by decide)]
            have hq_171 : (f_141 9).toInt ≤ 1960000000 := by rw [ev_172] <;> (first | assumption | omega | (intros; omega))
            refine mcV (zrV (As := [.int x1, .int x2]) (b := a0) (rest := []) C hs hP hS (c_X12_endTrick l D K hM f_141 A_153 hT a0 ha0 hk0 x1 x2 hp0 hq_166 hq_167 hq_169 hq_171) m_X12_endTrick wm_X12_217 (zrecv hs hP ha0 (zF_11 hk0) rfl) ⟨by decide, by decide⟩ hl.1 (Nat.le_of_ble_eq_true rfl) dX12_doLay_333) hS (fun f_173 A_173 H locs p_173 hP hS => ?_)
            obtain ⟨hT, hA_173, hF_173, hC_173, hW_173, pp_173⟩ := p_173
            have pp_173 : (f_141 9).toInt ≤ (f_173 9).toInt ∧ (f_173 9).toInt ≤ (f_141 9).toInt + 2 ∧ (f_141 11).toInt ≤ (f_173 11).toInt ∧ (f_173 11).toInt ≤ (f_141 11).toInt + 13 ∧ ((f_141 12).toInt ≠ 0 → (f_173 11).toInt = (f_141 11).toInt) ∧ rowN (A_173 40) x1.toInt := pp_173
            have pp0_173 := pp_173
            have ev_174 : f_141 11 = f 11 := by rw [hF_141 11 (by decide)]
            have ev_175 : f_141 12 = f 12 := by rw [hF_141 12 (by decide)]
            have ev_176 : f_141 9 = f 9 := by rw [hF_141 9 (by decide)]
            rw [ev_174, ev_175, ev_176] at pp_173
            have FA := frA FA hA_173 (by decide)
            have FF := frF FF hF_173 (by decide)
            have FC := fC.tr FC hC_173 (by decide)
            have WZ := wz.tr WZ hW_173
            have hRN := pp0_173.2.2.2.2.2
            exact maV hQ hx hb hr hlk hP hS ⟨hT, FA, FF, FC, WZ, ⟨by omega, by omega, by omega, by omega, fun h9 => by omega, hRN⟩⟩ dX12_doLay_336
        · skip
          refine lv_aload_n hx hb dX12_doLay_107 rfl (lv_at hl 2 rfl) ?_
          refine mg_0 C hs hP ha0 hk0 wf_X12_8 dX12_doLay_108 ?_
          refine lv_iload_n hx hb dX12_doLay_111 rfl (lv_at hl 3 rfl) ?_
          refine lv_bipush (v := 43) hx hb dX12_doLay_112 (by decide) ?_
          refine lv_iadd hx hb dX12_doLay_114 ?_
          refine lv_topi (fun x_177 ex_177 => ?_)
          have hi_hr_178 : zEq x_177.toInt (x1.toInt + 43) := by
            have g_179 := z_rng x1
            obtain ⟨f_177, l_177, u_177⟩ := z_add ex_177 rfl ti_43
            try replace f_177 : x_177.toInt = x1.toInt + 43 := by omega
            clear l_177 u_177
            show x_177.toInt = (x1.toInt + 43)
            omega
          have hl_hr_178 : (43 : Int) ≤ 43 ∧ 43 ≤ (43 : Int) := by decide
          have hid_hr_178 : (x1.toInt + 43) = x1.toInt + (43) := by simp only [Int.add_assoc, Int.add_sub_assoc]
          have hr_178 := z_cell (lo := 43) (hi := 43) hp0 hi_hr_178 hid_hr_178 hl_hr_178 (by decide)
          replace hid_hr_178 : zEq (x1.toInt + 43) (x1.toInt + (43)) := hid_hr_178
          have hin_180 : vp_in x_177 (zn K (zr K a0 0)) := vp_in_iff.mpr (by rw [(hf_1.2.2 (by decide))]; exact hr_178.in)
          refine mld_40 C hs hP hf_1.1 hf_1.2.1 hin_180 dX12_doLay_115 ?_
          have ep_181 : x_177.toNatClampNeg = (x1.toInt + 43).toNat := z_posE hi_hr_178
          rw [ep_181]
          have tv_182 := rv_43 hT hr_178
          rw [ep_181] at tv_182
          refine lv_istore (lv' := [(6, .int (A_33 40 (x1.toInt + 43).toNat)), (5, .int (A 40 (x1.toInt + 60 * x3.toInt + x4.toInt + 230).toNat)), (0, .ref a0), (1, .int x1), (2, .int x2), (3, .int x3), (4, .int x4)]) hx hb dX12_doLay_116 hl (by decide) rfl (fun ls hl => ?_)
          refine lv_aload_n hx hb dX12_doLay_118 rfl (lv_at hl 2 rfl) ?_
          refine mg_0 C hs hP ha0 hk0 wf_X12_8 dX12_doLay_119 ?_
          refine lv_iload_n hx hb dX12_doLay_122 rfl (lv_at hl 3 rfl) ?_
          refine lv_sipush (v := 650) hx hb dX12_doLay_123 (by decide) ?_
          refine lv_iadd hx hb dX12_doLay_126 ?_
          refine lv_topi (fun x_183 ex_183 => ?_)
          refine lv_iload hx hb dX12_doLay_127 (lv_at hl 0 rfl) ?_
          refine lv_iadd hx hb dX12_doLay_129 ?_
          refine lv_topi (fun x_184 ex_184 => ?_)
          refine lv_iload_n hx hb dX12_doLay_130 rfl (lv_at hl 5 rfl) ?_
          have hi_hr_185 : zEq x_184.toInt (x1.toInt + (A_33 40 (x1.toInt + 43).toNat).toInt + 650) := by
            have g_186 := z_rng x1
            obtain ⟨f_183, l_183, u_183⟩ := z_add ex_183 rfl ti_650
            try replace f_183 : x_183.toInt = x1.toInt + 650 := by omega
            clear l_183 u_183
            have g_187 := z_rng (A_33 40 (x1.toInt + 43).toNat)
            obtain ⟨f_184, l_184, u_184⟩ := z_add ex_184 rfl rfl
            try replace f_184 : x_184.toInt = x_183.toInt + (A_33 40 (x1.toInt + 43).toNat).toInt := by omega
            clear l_184 u_184
            show x_184.toInt = (x1.toInt + (A_33 40 (x1.toInt + 43).toNat).toInt + 650)
            omega
          have hl_hr_185 : 650 ≤ (A_33 40 (x1.toInt + 43).toNat).toInt + 650 ∧ (A_33 40 (x1.toInt + 43).toNat).toInt + 650 ≤ 709 := by
            have g_188 := z_rng x1
            have g_189 := z_rng (A_33 40 (x1.toInt + 43).toNat)
            omega
          have hid_hr_185 : (x1.toInt + (A_33 40 (x1.toInt + 43).toNat).toInt + 650) = x1.toInt + ((A_33 40 (x1.toInt + 43).toNat).toInt + 650) := by simp only [Int.add_assoc, Int.add_sub_assoc]
          have hr_185 := z_cell (lo := 470) (hi := 769) hp0 hi_hr_185 hid_hr_185 hl_hr_185 (by decide)
          replace hid_hr_185 : zEq (x1.toInt + (A_33 40 (x1.toInt + 43).toNat).toInt + 650) (x1.toInt + ((A_33 40 (x1.toInt + 43).toNat).toInt + 650)) := hid_hr_185
          have hin_190 : vp_in x_184 (zn K (zr K a0 0)) := vp_in_iff.mpr (by rw [(hf_1.2.2 (by decide))]; exact hr_185.in)
          refine mst_40 C hM hs hP hS hf_1.1 hT hf_1.2.1 hin_190 (tp_470 hr_185) dX12_doLay_131 (fun A_191 H locs hE_191 hT hP hS => ?_)
          have ep_192 : x_184.toNatClampNeg = (x1.toInt + (A_33 40 (x1.toInt + 43).toNat).toInt + 650).toNat := z_posE hi_hr_185
          rw [ep_192] at hE_191
          have FA := frA FA (frAu hE_191) (by decide)
          have FC := fC.tr FC (fC.st (b := x1.toInt) (lo := 650) (hi := 709) hE_191 hb0.1 (by decide) hid_hr_185 hl_hr_185) (by decide)
          have WZ := wz.st WZ hE_191 (Or.inr (by omega))
          refine lv_aload_n hx hb dX12_doLay_132 rfl (lv_at hl 2 rfl) ?_
          refine mg_0 C hs hP ha0 hk0 wf_X12_8 dX12_doLay_133 ?_
          refine lv_iload_n hx hb dX12_doLay_136 rfl (lv_at hl 3 rfl) ?_
          refine lv_sipush (v := 710) hx hb dX12_doLay_137 (by decide) ?_
          refine lv_iadd hx hb dX12_doLay_140 ?_
          refine lv_topi (fun x_193 ex_193 => ?_)
          refine lv_iload hx hb dX12_doLay_141 (lv_at hl 0 rfl) ?_
          refine lv_iadd hx hb dX12_doLay_143 ?_
          refine lv_topi (fun x_194 ex_194 => ?_)
          refine lv_aload_n hx hb dX12_doLay_144 rfl (lv_at hl 2 rfl) ?_
          refine lv_iload_n hx hb dX12_doLay_145 rfl (lv_at hl 3 rfl) ?_
          refine lv_aload_n hx hb dX12_doLay_146 rfl (lv_at hl 2 rfl) ?_
          refine mg_0 C hs hP ha0 hk0 wf_X12_8 dX12_doLay_147 ?_
          refine lv_iload_n hx hb dX12_doLay_150 rfl (lv_at hl 3 rfl) ?_
          refine lv_bipush (v := 27) hx hb dX12_doLay_151 (by decide) ?_
          refine lv_iadd hx hb dX12_doLay_153 ?_
          refine lv_topi (fun x_195 ex_195 => ?_)
          have hi_hr_196 : zEq x_195.toInt (x1.toInt + 27) := by
            have g_197 := z_rng x1
            obtain ⟨f_195, l_195, u_195⟩ := z_add ex_195 rfl ti_27
            try replace f_195 : x_195.toInt = x1.toInt + 27 := by omega
            clear l_195 u_195
            show x_195.toInt = (x1.toInt + 27)
            omega
          have hl_hr_196 : (27 : Int) ≤ 27 ∧ 27 ≤ (27 : Int) := by decide
          have hid_hr_196 : (x1.toInt + 27) = x1.toInt + (27) := by simp only [Int.add_assoc, Int.add_sub_assoc]
          have hr_196 := z_cell (lo := 27) (hi := 30) hp0 hi_hr_196 hid_hr_196 hl_hr_196 (by decide)
          replace hid_hr_196 : zEq (x1.toInt + 27) (x1.toInt + (27)) := hid_hr_196
          have hin_198 : vp_in x_195 (zn K (zr K a0 0)) := vp_in_iff.mpr (by rw [(hf_1.2.2 (by decide))]; exact hr_196.in)
          refine mld_40 C hs hP hf_1.1 hf_1.2.1 hin_198 dX12_doLay_154 ?_
          have ep_199 : x_195.toNatClampNeg = (x1.toInt + 27).toNat := z_posE hi_hr_196
          rw [ep_199]
          have g_201 := z_rng x1
          obtain ⟨f_195, l_195, u_195⟩ := z_add ex_195 rfl ti_27
          try replace f_195 : x_195.toInt = x1.toInt + 27 := by omega
          clear l_195 u_195
          obtain ⟨f_183, l_183, u_183⟩ := z_add ex_183 rfl ti_650
          try replace f_183 : x_183.toInt = x1.toInt + 650 := by omega
          clear l_183 u_183
          have g_202 := z_rng (A_33 40 (x1.toInt + 43).toNat)
          obtain ⟨f_184, l_184, u_184⟩ := z_add ex_184 rfl rfl
          try replace f_184 : x_184.toInt = x_183.toInt + (A_33 40 (x1.toInt + 43).toNat).toInt := by omega
          clear l_184 u_184
          have hn_200 : (x1.toInt + 27).toNat ≠ (x1.toInt + (A_33 40 (x1.toInt + 43).toNat).toInt + 650).toNat := by omega
          have ev_203 : A_191 40 (x1.toInt + 27).toNat = A_33 40 (x1.toInt + 27).toNat := by rw [hE_191, va_up_self, pk_un hn_200]
          have tv_204 := rv_27 hT hr_196
          rw [ep_199] at tv_204
          rw [ev_203] at tv_204
          rw [ev_203]
          have g_205 := z_rng (A_33 40 (x1.toInt + 27).toNat)
          have hq_206 : 0 ≤ (A_33 40 (x1.toInt + 27).toNat).toInt ∧ (A_33 40 (x1.toInt + 27).toNat).toInt ≤ 59 := by (first | assumption | omega | (intros; omega))
          refine zcS (zrV (As := [.int x1, .int (A_33 40 (x1.toInt + 27).toNat)]) (b := a0) (rest := [.int x_194, .ref (zr K a0 0)]) C hs hP hS (c_X12_colour l D K hM f A_191 hT a0 ha0 hk0 x1 (A_33 40 (x1.toInt + 27).toNat) hp0 hq_206) m_X12_colour wm_X12_120 (zrecv hs hP ha0 (zF_11 hk0) rfl) ⟨by decide, by decide⟩ hl.1 (Nat.le_of_ble_eq_true rfl) dX12_doLay_155) (fun x_207 p_207 => ?_)
          have pp_207 : x_207 = mcol (A_191 40) x1 (A_33 40 (x1.toInt + 27).toNat) := p_207
          have pq_207 := congrArg Int32.toInt pp_207
          have hi_hr_208 : zEq x_194.toInt (x1.toInt + (A_33 40 (x1.toInt + 43).toNat).toInt + 710) := by
            obtain ⟨f_193, l_193, u_193⟩ := z_add ex_193 rfl ti_710
            try replace f_193 : x_193.toInt = x1.toInt + 710 := by omega
            clear l_193 u_193
            obtain ⟨f_194, l_194, u_194⟩ := z_add ex_194 rfl rfl
            try replace f_194 : x_194.toInt = x_193.toInt + (A_33 40 (x1.toInt + 43).toNat).toInt := by omega
            clear l_194 u_194
            show x_194.toInt = (x1.toInt + (A_33 40 (x1.toInt + 43).toNat).toInt + 710)
            omega
          have hl_hr_208 : 710 ≤ (A_33 40 (x1.toInt + 43).toNat).toInt + 710 ∧ (A_33 40 (x1.toInt + 43).toNat).toInt + 710 ≤ 769 := by
            omega
          have hid_hr_208 : (x1.toInt + (A_33 40 (x1.toInt + 43).toNat).toInt + 710) = x1.toInt + ((A_33 40 (x1.toInt + 43).toNat).toInt + 710) := by simp only [Int.add_assoc, Int.add_sub_assoc]
          have hr_208 := z_cell (lo := 470) (hi := 769) hp0 hi_hr_208 hid_hr_208 hl_hr_208 (by decide)
          replace hid_hr_208 : zEq (x1.toInt + (A_33 40 (x1.toInt + 43).toNat).toInt + 710) (x1.toInt + ((A_33 40 (x1.toInt + 43).toNat).toInt + 710)) := hid_hr_208
          have hin_209 : vp_in x_194 (zn K (zr K a0 0)) := vp_in_iff.mpr (by rw [(hf_1.2.2 (by decide))]; exact hr_208.in)
          refine mst_40 C hM hs hP hS hf_1.1 hT hf_1.2.1 hin_209 (tp_470 hr_208) dX12_doLay_158 (fun A_210 H locs hE_210 hT hP hS => ?_)
          have ep_211 : x_194.toNatClampNeg = (x1.toInt + (A_33 40 (x1.toInt + 43).toNat).toInt + 710).toNat := z_posE hi_hr_208
          rw [ep_211] at hE_210
          have FA := frA FA (frAu hE_210) (by decide)
          have FC := fC.tr FC (fC.st (b := x1.toInt) (lo := 710) (hi := 769) hE_210 hb0.1 (by decide) hid_hr_208 hl_hr_208) (by decide)
          have WZ := wz.st WZ hE_210 (Or.inr (by omega))
          refine lv_aload_n hx hb dX12_doLay_159 rfl (lv_at hl 2 rfl) ?_
          refine mg_0 C hs hP ha0 hk0 wf_X12_8 dX12_doLay_160 ?_
          refine lv_iload_n hx hb dX12_doLay_163 rfl (lv_at hl 3 rfl) ?_
          refine lv_sipush (v := 770) hx hb dX12_doLay_164 (by decide) ?_
          refine lv_iadd hx hb dX12_doLay_167 ?_
          refine lv_topi (fun x_212 ex_212 => ?_)
          refine lv_iload hx hb dX12_doLay_168 (lv_at hl 0 rfl) ?_
          refine lv_iadd hx hb dX12_doLay_170 ?_
          refine lv_topi (fun x_213 ex_213 => ?_)
          refine lv_aload_n hx hb dX12_doLay_171 rfl (lv_at hl 2 rfl) ?_
          refine mg_0 C hs hP ha0 hk0 wf_X12_8 dX12_doLay_172 ?_
          refine lv_iload_n hx hb dX12_doLay_175 rfl (lv_at hl 3 rfl) ?_
          refine lv_bipush (v := 20) hx hb dX12_doLay_176 (by decide) ?_
          refine lv_iadd hx hb dX12_doLay_178 ?_
          refine lv_topi (fun x_214 ex_214 => ?_)
          have hi_hr_215 : zEq x_214.toInt (x1.toInt + 20) := by
            obtain ⟨f_214, l_214, u_214⟩ := z_add ex_214 rfl ti_20
            try replace f_214 : x_214.toInt = x1.toInt + 20 := by omega
            clear l_214 u_214
            show x_214.toInt = (x1.toInt + 20)
            omega
          have hl_hr_215 : (20 : Int) ≤ 20 ∧ 20 ≤ (20 : Int) := by decide
          have hid_hr_215 : (x1.toInt + 20) = x1.toInt + (20) := by simp only [Int.add_assoc, Int.add_sub_assoc]
          have hr_215 := z_cell (lo := 20) (hi := 21) hp0 hi_hr_215 hid_hr_215 hl_hr_215 (by decide)
          replace hid_hr_215 : zEq (x1.toInt + 20) (x1.toInt + (20)) := hid_hr_215
          have hin_216 : vp_in x_214 (zn K (zr K a0 0)) := vp_in_iff.mpr (by rw [(hf_1.2.2 (by decide))]; exact hr_215.in)
          refine mld_40 C hs hP hf_1.1 hf_1.2.1 hin_216 dX12_doLay_179 ?_
          have ep_217 : x_214.toNatClampNeg = (x1.toInt + 20).toNat := z_posE hi_hr_215
          rw [ep_217]
          obtain ⟨f_214, l_214, u_214⟩ := z_add ex_214 rfl ti_20
          try replace f_214 : x_214.toInt = x1.toInt + 20 := by omega
          clear l_214 u_214
          obtain ⟨f_193, l_193, u_193⟩ := z_add ex_193 rfl ti_710
          try replace f_193 : x_193.toInt = x1.toInt + 710 := by omega
          clear l_193 u_193
          obtain ⟨f_194, l_194, u_194⟩ := z_add ex_194 rfl rfl
          try replace f_194 : x_194.toInt = x_193.toInt + (A_33 40 (x1.toInt + 43).toNat).toInt := by omega
          clear l_194 u_194
          have hn_218 : (x1.toInt + 20).toNat ≠ (x1.toInt + (A_33 40 (x1.toInt + 43).toNat).toInt + 710).toNat := by omega
          have hn_219 : (x1.toInt + 20).toNat ≠ (x1.toInt + (A_33 40 (x1.toInt + 43).toNat).toInt + 650).toNat := by omega
          have ev_220 : A_210 40 (x1.toInt + 20).toNat = A_33 40 (x1.toInt + 20).toNat := by rw [hE_210, va_up_self, pk_un hn_218, hE_191, va_up_self, pk_un hn_219]
          have tv_221 := rv_20 hT hr_215
          rw [ep_217] at tv_221
          rw [ev_220] at tv_221
          rw [ev_220]
          have hi_hr_222 : zEq x_213.toInt (x1.toInt + (A_33 40 (x1.toInt + 43).toNat).toInt + 770) := by
            obtain ⟨f_212, l_212, u_212⟩ := z_add ex_212 rfl ti_770
            try replace f_212 : x_212.toInt = x1.toInt + 770 := by omega
            clear l_212 u_212
            obtain ⟨f_213, l_213, u_213⟩ := z_add ex_213 rfl rfl
            try replace f_213 : x_213.toInt = x_212.toInt + (A_33 40 (x1.toInt + 43).toNat).toInt := by omega
            clear l_213 u_213
            show x_213.toInt = (x1.toInt + (A_33 40 (x1.toInt + 43).toNat).toInt + 770)
            omega
          have hl_hr_222 : 770 ≤ (A_33 40 (x1.toInt + 43).toNat).toInt + 770 ∧ (A_33 40 (x1.toInt + 43).toNat).toInt + 770 ≤ 829 := by
            omega
          have hid_hr_222 : (x1.toInt + (A_33 40 (x1.toInt + 43).toNat).toInt + 770) = x1.toInt + ((A_33 40 (x1.toInt + 43).toNat).toInt + 770) := by simp only [Int.add_assoc, Int.add_sub_assoc]
          have hr_222 := z_cell (lo := 770) (hi := 829) hp0 hi_hr_222 hid_hr_222 hl_hr_222 (by decide)
          replace hid_hr_222 : zEq (x1.toInt + (A_33 40 (x1.toInt + 43).toNat).toInt + 770) (x1.toInt + ((A_33 40 (x1.toInt + 43).toNat).toInt + 770)) := hid_hr_222
          have hin_223 : vp_in x_213 (zn K (zr K a0 0)) := vp_in_iff.mpr (by rw [(hf_1.2.2 (by decide))]; exact hr_222.in)
          have g_225 := z_rng (A_33 40 (x1.toInt + 20).toNat)
          refine mst_40 C hM hs hP hS hf_1.1 hT hf_1.2.1 hin_223 (tp_770 hr_222 (show 0 ≤ (A_33 40 (x1.toInt + 20).toNat).toInt ∧ (A_33 40 (x1.toInt + 20).toNat).toInt ≤ 59 from by omega)) dX12_doLay_180 (fun A_224 H locs hE_224 hT hP hS => ?_)
          have ep_226 : x_213.toNatClampNeg = (x1.toInt + (A_33 40 (x1.toInt + 43).toNat).toInt + 770).toNat := z_posE hi_hr_222
          rw [ep_226] at hE_224
          have FA := frA FA (frAu hE_224) (by decide)
          have FC := fC.tr FC (fC.st (b := x1.toInt) (lo := 770) (hi := 829) hE_224 hb0.1 (by decide) hid_hr_222 hl_hr_222) (by decide)
          have WZ := wz.st WZ hE_224 (Or.inr (by omega))
          refine lv_aload_n hx hb dX12_doLay_181 rfl (lv_at hl 2 rfl) ?_
          refine mg_0 C hs hP ha0 hk0 wf_X12_8 dX12_doLay_182 ?_
          refine lv_iload_n hx hb dX12_doLay_185 rfl (lv_at hl 3 rfl) ?_
          refine lv_sipush (v := 830) hx hb dX12_doLay_186 (by decide) ?_
          refine lv_iadd hx hb dX12_doLay_189 ?_
          refine lv_topi (fun x_227 ex_227 => ?_)
          refine lv_iload hx hb dX12_doLay_190 (lv_at hl 0 rfl) ?_
          refine lv_iadd hx hb dX12_doLay_192 ?_
          refine lv_topi (fun x_228 ex_228 => ?_)
          refine lv_iconst (v := 0) hx hb dX12_doLay_193 (by decide) ?_
          have hi_hr_229 : zEq x_228.toInt (x1.toInt + (A_33 40 (x1.toInt + 43).toNat).toInt + 830) := by
            obtain ⟨f_227, l_227, u_227⟩ := z_add ex_227 rfl ti_830
            try replace f_227 : x_227.toInt = x1.toInt + 830 := by omega
            clear l_227 u_227
            obtain ⟨f_228, l_228, u_228⟩ := z_add ex_228 rfl rfl
            try replace f_228 : x_228.toInt = x_227.toInt + (A_33 40 (x1.toInt + 43).toNat).toInt := by omega
            clear l_228 u_228
            show x_228.toInt = (x1.toInt + (A_33 40 (x1.toInt + 43).toNat).toInt + 830)
            omega
          have hl_hr_229 : 830 ≤ (A_33 40 (x1.toInt + 43).toNat).toInt + 830 ∧ (A_33 40 (x1.toInt + 43).toNat).toInt + 830 ≤ 889 := by
            omega
          have hid_hr_229 : (x1.toInt + (A_33 40 (x1.toInt + 43).toNat).toInt + 830) = x1.toInt + ((A_33 40 (x1.toInt + 43).toNat).toInt + 830) := by simp only [Int.add_assoc, Int.add_sub_assoc]
          have hr_229 := z_cell (lo := 830) (hi := 1289) hp0 hi_hr_229 hid_hr_229 hl_hr_229 (by decide)
          replace hid_hr_229 : zEq (x1.toInt + (A_33 40 (x1.toInt + 43).toNat).toInt + 830) (x1.toInt + ((A_33 40 (x1.toInt + 43).toNat).toInt + 830)) := hid_hr_229
          have hin_230 : vp_in x_228 (zn K (zr K a0 0)) := vp_in_iff.mpr (by rw [(hf_1.2.2 (by decide))]; exact hr_229.in)
          refine mst_40 C hM hs hP hS hf_1.1 hT hf_1.2.1 hin_230 (tp_830 hr_229) dX12_doLay_194 (fun A_231 H locs hE_231 hT hP hS => ?_)
          have ep_232 : x_228.toNatClampNeg = (x1.toInt + (A_33 40 (x1.toInt + 43).toNat).toInt + 830).toNat := z_posE hi_hr_229
          rw [ep_232] at hE_231
          have FA := frA FA (frAu hE_231) (by decide)
          have FC := fC.tr FC (fC.st (b := x1.toInt) (lo := 830) (hi := 889) hE_231 hb0.1 (by decide) hid_hr_229 hl_hr_229) (by decide)
          have WZ := wz.st WZ hE_231 (Or.inr (by omega))
          refine lv_aload_n hx hb dX12_doLay_195 rfl (lv_at hl 2 rfl) ?_
          refine mg_0 C hs hP ha0 hk0 wf_X12_8 dX12_doLay_196 ?_
          refine lv_iload_n hx hb dX12_doLay_199 rfl (lv_at hl 3 rfl) ?_
          refine lv_bipush (v := 43) hx hb dX12_doLay_200 (by decide) ?_
          refine lv_iadd hx hb dX12_doLay_202 ?_
          refine lv_topi (fun x_233 ex_233 => ?_)
          refine lv_dup2_11 hx hb dX12_doLay_203 rfl rfl ?_
          have hi_hr_234 : zEq x_233.toInt (x1.toInt + 43) := by
            obtain ⟨f_233, l_233, u_233⟩ := z_add ex_233 rfl ti_43
            try replace f_233 : x_233.toInt = x1.toInt + 43 := by omega
            clear l_233 u_233
            show x_233.toInt = (x1.toInt + 43)
            omega
          have hl_hr_234 : (43 : Int) ≤ 43 ∧ 43 ≤ (43 : Int) := by decide
          have hid_hr_234 : (x1.toInt + 43) = x1.toInt + (43) := by simp only [Int.add_assoc, Int.add_sub_assoc]
          have hr_234 := z_cell (lo := 43) (hi := 43) hp0 hi_hr_234 hid_hr_234 hl_hr_234 (by decide)
          replace hid_hr_234 : zEq (x1.toInt + 43) (x1.toInt + (43)) := hid_hr_234
          have hin_235 : vp_in x_233 (zn K (zr K a0 0)) := vp_in_iff.mpr (by rw [(hf_1.2.2 (by decide))]; exact hr_234.in)
          refine mld_40 C hs hP hf_1.1 hf_1.2.1 hin_235 dX12_doLay_204 ?_
          have ep_236 : x_233.toNatClampNeg = (x1.toInt + 43).toNat := z_posE hi_hr_234
          rw [ep_236]
          obtain ⟨f_233, l_233, u_233⟩ := z_add ex_233 rfl ti_43
          try replace f_233 : x_233.toInt = x1.toInt + 43 := by omega
          clear l_233 u_233
          obtain ⟨f_227, l_227, u_227⟩ := z_add ex_227 rfl ti_830
          try replace f_227 : x_227.toInt = x1.toInt + 830 := by omega
          clear l_227 u_227
          obtain ⟨f_228, l_228, u_228⟩ := z_add ex_228 rfl rfl
          try replace f_228 : x_228.toInt = x_227.toInt + (A_33 40 (x1.toInt + 43).toNat).toInt := by omega
          clear l_228 u_228
          have hn_237 : (x1.toInt + 43).toNat ≠ (x1.toInt + (A_33 40 (x1.toInt + 43).toNat).toInt + 830).toNat := by omega
          obtain ⟨f_212, l_212, u_212⟩ := z_add ex_212 rfl ti_770
          try replace f_212 : x_212.toInt = x1.toInt + 770 := by omega
          clear l_212 u_212
          obtain ⟨f_213, l_213, u_213⟩ := z_add ex_213 rfl rfl
          try replace f_213 : x_213.toInt = x_212.toInt + (A_33 40 (x1.toInt + 43).toNat).toInt := by omega
          clear l_213 u_213
          have hn_238 : (x1.toInt + 43).toNat ≠ (x1.toInt + (A_33 40 (x1.toInt + 43).toNat).toInt + 770).toNat := by omega
          have hn_239 : (x1.toInt + 43).toNat ≠ (x1.toInt + (A_33 40 (x1.toInt + 43).toNat).toInt + 710).toNat := by omega
          have hn_240 : (x1.toInt + 43).toNat ≠ (x1.toInt + (A_33 40 (x1.toInt + 43).toNat).toInt + 650).toNat := by omega
          have ev_241 : A_231 40 (x1.toInt + 43).toNat = A_33 40 (x1.toInt + 43).toNat := by rw [hE_231, va_up_self, pk_un hn_237, hE_224, va_up_self, pk_un hn_238, hE_210, va_up_self, pk_un hn_239, hE_191, va_up_self, pk_un hn_240]
          rw [ev_241]
          refine lv_iconst (v := 1) hx hb dX12_doLay_205 (by decide) ?_
          refine lv_iadd hx hb dX12_doLay_206 ?_
          refine lv_topi (fun x_242 ex_242 => ?_)
          have hin_243 : vp_in x_233 (zn K (zr K a0 0)) := vp_in_iff.mpr (by rw [(hf_1.2.2 (by decide))]; exact hr_234.in)
          obtain ⟨f_242, l_242, u_242⟩ := z_add ex_242 rfl ti_1
          try replace f_242 : x_242.toInt = (A_33 40 (x1.toInt + 43).toNat).toInt + 1 := by omega
          clear l_242 u_242
          refine mst_40 C hM hs hP hS hf_1.1 hT hf_1.2.1 hin_243 (tp_43 hr_234 (show 0 ≤ x_242.toInt ∧ x_242.toInt ≤ 60 from by omega)) dX12_doLay_207 (fun A_244 H locs hE_244 hT hP hS => ?_)
          have ep_245 : x_233.toNatClampNeg = (x1.toInt + 43).toNat := z_posE hi_hr_234
          rw [ep_245] at hE_244
          have FA := frA FA (frAu hE_244) (by decide)
          have FC := fC.tr FC (fC.st (b := x1.toInt) (lo := 43) (hi := 43) hE_244 hb0.1 (by decide) hid_hr_234 hl_hr_234) (by decide)
          have WZ := wz.st WZ hE_244 (Or.inr (by omega))
          refine lv_aload_n hx hb dX12_doLay_208 rfl (lv_at hl 2 rfl) ?_
          refine mg_0 C hs hP ha0 hk0 wf_X12_8 dX12_doLay_209 ?_
          refine lv_iload_n hx hb dX12_doLay_212 rfl (lv_at hl 3 rfl) ?_
          refine lv_bipush (v := 14) hx hb dX12_doLay_213 (by decide) ?_
          refine lv_iadd hx hb dX12_doLay_215 ?_
          refine lv_topi (fun x_246 ex_246 => ?_)
          refine lv_iconst (v := 1) hx hb dX12_doLay_216 (by decide) ?_
          have hi_hr_247 : zEq x_246.toInt (x1.toInt + 14) := by
            obtain ⟨f_246, l_246, u_246⟩ := z_add ex_246 rfl ti_14
            try replace f_246 : x_246.toInt = x1.toInt + 14 := by omega
            clear l_246 u_246
            show x_246.toInt = (x1.toInt + 14)
            omega
          have hl_hr_247 : (14 : Int) ≤ 14 ∧ 14 ≤ (14 : Int) := by decide
          have hid_hr_247 : (x1.toInt + 14) = x1.toInt + (14) := by simp only [Int.add_assoc, Int.add_sub_assoc]
          have hr_247 := z_cell (lo := 10) (hi := 19) hp0 hi_hr_247 hid_hr_247 hl_hr_247 (by decide)
          replace hid_hr_247 : zEq (x1.toInt + 14) (x1.toInt + (14)) := hid_hr_247
          have hin_248 : vp_in x_246 (zn K (zr K a0 0)) := vp_in_iff.mpr (by rw [(hf_1.2.2 (by decide))]; exact hr_247.in)
          refine mst_40 C hM hs hP hS hf_1.1 hT hf_1.2.1 hin_248 (tp_10 hr_247) dX12_doLay_217 (fun A_249 H locs hE_249 hT hP hS => ?_)
          have ep_250 : x_246.toNatClampNeg = (x1.toInt + 14).toNat := z_posE hi_hr_247
          rw [ep_250] at hE_249
          have FA := frA FA (frAu hE_249) (by decide)
          have FC := fC.tr FC (fC.st (b := x1.toInt) (lo := 14) (hi := 14) hE_249 hb0.1 (by decide) hid_hr_247 hl_hr_247) (by decide)
          have WZ := wz.st WZ hE_249 (Or.inr (by omega))
          refine lv_aload_n hx hb dX12_doLay_218 rfl (lv_at hl 2 rfl) ?_
          refine mg_0 C hs hP ha0 hk0 wf_X12_8 dX12_doLay_219 ?_
          refine lv_iload_n hx hb dX12_doLay_222 rfl (lv_at hl 3 rfl) ?_
          refine lv_bipush (v := 27) hx hb dX12_doLay_223 (by decide) ?_
          refine lv_iadd hx hb dX12_doLay_225 ?_
          refine lv_topi (fun x_251 ex_251 => ?_)
          refine lv_aload_n hx hb dX12_doLay_226 rfl (lv_at hl 2 rfl) ?_
          refine mg_0 C hs hP ha0 hk0 wf_X12_8 dX12_doLay_227 ?_
          refine lv_iload_n hx hb dX12_doLay_230 rfl (lv_at hl 3 rfl) ?_
          refine lv_bipush (v := 26) hx hb dX12_doLay_231 (by decide) ?_
          refine lv_iadd hx hb dX12_doLay_233 ?_
          refine lv_topi (fun x_252 ex_252 => ?_)
          have hi_hr_253 : zEq x_252.toInt (x1.toInt + 26) := by
            obtain ⟨f_252, l_252, u_252⟩ := z_add ex_252 rfl ti_26
            try replace f_252 : x_252.toInt = x1.toInt + 26 := by omega
            clear l_252 u_252
            show x_252.toInt = (x1.toInt + 26)
            omega
          have hl_hr_253 : (26 : Int) ≤ 26 ∧ 26 ≤ (26 : Int) := by decide
          have hid_hr_253 : (x1.toInt + 26) = x1.toInt + (26) := by simp only [Int.add_assoc, Int.add_sub_assoc]
          have hr_253 := z_cell (lo := 26) (hi := 26) hp0 hi_hr_253 hid_hr_253 hl_hr_253 (by decide)
          replace hid_hr_253 : zEq (x1.toInt + 26) (x1.toInt + (26)) := hid_hr_253
          have hin_254 : vp_in x_252 (zn K (zr K a0 0)) := vp_in_iff.mpr (by rw [(hf_1.2.2 (by decide))]; exact hr_253.in)
          refine mld_40 C hs hP hf_1.1 hf_1.2.1 hin_254 dX12_doLay_234 ?_
          have ep_255 : x_252.toNatClampNeg = (x1.toInt + 26).toNat := z_posE hi_hr_253
          rw [ep_255]
          obtain ⟨f_252, l_252, u_252⟩ := z_add ex_252 rfl ti_26
          try replace f_252 : x_252.toInt = x1.toInt + 26 := by omega
          clear l_252 u_252
          obtain ⟨f_246, l_246, u_246⟩ := z_add ex_246 rfl ti_14
          try replace f_246 : x_246.toInt = x1.toInt + 14 := by omega
          clear l_246 u_246
          have hn_256 : (x1.toInt + 26).toNat ≠ (x1.toInt + 14).toNat := by omega
          have hn_257 : (x1.toInt + 26).toNat ≠ (x1.toInt + 43).toNat := by omega
          have hn_258 : (x1.toInt + 26).toNat ≠ (x1.toInt + (A_33 40 (x1.toInt + 43).toNat).toInt + 830).toNat := by omega
          have hn_259 : (x1.toInt + 26).toNat ≠ (x1.toInt + (A_33 40 (x1.toInt + 43).toNat).toInt + 770).toNat := by omega
          have hn_260 : (x1.toInt + 26).toNat ≠ (x1.toInt + (A_33 40 (x1.toInt + 43).toNat).toInt + 710).toNat := by omega
          have hn_261 : (x1.toInt + 26).toNat ≠ (x1.toInt + (A_33 40 (x1.toInt + 43).toNat).toInt + 650).toNat := by omega
          have ev_262 : A_249 40 (x1.toInt + 26).toNat = A_33 40 (x1.toInt + 26).toNat := by rw [hE_249, va_up_self, pk_un hn_256, hE_244, va_up_self, pk_un hn_257, hE_231, va_up_self, pk_un hn_258, hE_224, va_up_self, pk_un hn_259, hE_210, va_up_self, pk_un hn_260, hE_191, va_up_self, pk_un hn_261]
          have tv_263 := rv_26 hT hr_253
          rw [ep_255] at tv_263
          rw [ev_262] at tv_263
          rw [ev_262]
          refine lv_iadd hx hb dX12_doLay_235 ?_
          refine lv_topi (fun x_264 ex_264 => ?_)
          refine lv_iload hx hb dX12_doLay_236 (lv_at hl 1 rfl) ?_
          have hi_hr_265 : zEq x_264.toInt (x1.toInt + (A_33 40 (x1.toInt + 26).toNat).toInt + 27) := by
            obtain ⟨f_251, l_251, u_251⟩ := z_add ex_251 rfl ti_27
            try replace f_251 : x_251.toInt = x1.toInt + 27 := by omega
            clear l_251 u_251
            have g_266 := z_rng (A_33 40 (x1.toInt + 26).toNat)
            obtain ⟨f_264, l_264, u_264⟩ := z_add ex_264 rfl rfl
            try replace f_264 : x_264.toInt = x_251.toInt + (A_33 40 (x1.toInt + 26).toNat).toInt := by omega
            clear l_264 u_264
            show x_264.toInt = (x1.toInt + (A_33 40 (x1.toInt + 26).toNat).toInt + 27)
            omega
          have hl_hr_265 : 27 ≤ (A_33 40 (x1.toInt + 26).toNat).toInt + 27 ∧ (A_33 40 (x1.toInt + 26).toNat).toInt + 27 ≤ 30 := by
            have g_267 := z_rng (A_33 40 (x1.toInt + 26).toNat)
            omega
          have hid_hr_265 : (x1.toInt + (A_33 40 (x1.toInt + 26).toNat).toInt + 27) = x1.toInt + ((A_33 40 (x1.toInt + 26).toNat).toInt + 27) := by simp only [Int.add_assoc, Int.add_sub_assoc]
          have hr_265 := z_cell (lo := 27) (hi := 30) hp0 hi_hr_265 hid_hr_265 hl_hr_265 (by decide)
          replace hid_hr_265 : zEq (x1.toInt + (A_33 40 (x1.toInt + 26).toNat).toInt + 27) (x1.toInt + ((A_33 40 (x1.toInt + 26).toNat).toInt + 27)) := hid_hr_265
          have hin_268 : vp_in x_264 (zn K (zr K a0 0)) := vp_in_iff.mpr (by rw [(hf_1.2.2 (by decide))]; exact hr_265.in)
          have g_270 := z_rng (A 40 (x1.toInt + 60 * x3.toInt + x4.toInt + 230).toNat)
          refine mst_40 C hM hs hP hS hf_1.1 hT hf_1.2.1 hin_268 (tp_27 hr_265 (show 0 ≤ (A 40 (x1.toInt + 60 * x3.toInt + x4.toInt + 230).toNat).toInt ∧ (A 40 (x1.toInt + 60 * x3.toInt + x4.toInt + 230).toNat).toInt ≤ 59 from by omega)) dX12_doLay_238 (fun A_269 H locs hE_269 hT hP hS => ?_)
          have ep_271 : x_264.toNatClampNeg = (x1.toInt + (A_33 40 (x1.toInt + 26).toNat).toInt + 27).toNat := z_posE hi_hr_265
          rw [ep_271] at hE_269
          have FA := frA FA (frAu hE_269) (by decide)
          have FC := fC.tr FC (fC.st (b := x1.toInt) (lo := 27) (hi := 30) hE_269 hb0.1 (by decide) hid_hr_265 hl_hr_265) (by decide)
          have WZ := wz.st WZ hE_269 (Or.inr (by omega))
          refine lv_aload_n hx hb dX12_doLay_239 rfl (lv_at hl 2 rfl) ?_
          refine mg_0 C hs hP ha0 hk0 wf_X12_8 dX12_doLay_240 ?_
          refine lv_iload_n hx hb dX12_doLay_243 rfl (lv_at hl 3 rfl) ?_
          refine lv_bipush (v := 31) hx hb dX12_doLay_244 (by decide) ?_
          refine lv_iadd hx hb dX12_doLay_246 ?_
          refine lv_topi (fun x_272 ex_272 => ?_)
          refine lv_aload_n hx hb dX12_doLay_247 rfl (lv_at hl 2 rfl) ?_
          refine mg_0 C hs hP ha0 hk0 wf_X12_8 dX12_doLay_248 ?_
          refine lv_iload_n hx hb dX12_doLay_251 rfl (lv_at hl 3 rfl) ?_
          refine lv_bipush (v := 26) hx hb dX12_doLay_252 (by decide) ?_
          refine lv_iadd hx hb dX12_doLay_254 ?_
          refine lv_topi (fun x_273 ex_273 => ?_)
          have hi_hr_274 : zEq x_273.toInt (x1.toInt + 26) := by
            obtain ⟨f_273, l_273, u_273⟩ := z_add ex_273 rfl ti_26
            try replace f_273 : x_273.toInt = x1.toInt + 26 := by omega
            clear l_273 u_273
            show x_273.toInt = (x1.toInt + 26)
            omega
          have hl_hr_274 : (26 : Int) ≤ 26 ∧ 26 ≤ (26 : Int) := by decide
          have hid_hr_274 : (x1.toInt + 26) = x1.toInt + (26) := by simp only [Int.add_assoc, Int.add_sub_assoc]
          have hr_274 := z_cell (lo := 26) (hi := 26) hp0 hi_hr_274 hid_hr_274 hl_hr_274 (by decide)
          replace hid_hr_274 : zEq (x1.toInt + 26) (x1.toInt + (26)) := hid_hr_274
          have hin_275 : vp_in x_273 (zn K (zr K a0 0)) := vp_in_iff.mpr (by rw [(hf_1.2.2 (by decide))]; exact hr_274.in)
          refine mld_40 C hs hP hf_1.1 hf_1.2.1 hin_275 dX12_doLay_255 ?_
          have ep_276 : x_273.toNatClampNeg = (x1.toInt + 26).toNat := z_posE hi_hr_274
          rw [ep_276]
          obtain ⟨f_273, l_273, u_273⟩ := z_add ex_273 rfl ti_26
          try replace f_273 : x_273.toInt = x1.toInt + 26 := by omega
          clear l_273 u_273
          obtain ⟨f_251, l_251, u_251⟩ := z_add ex_251 rfl ti_27
          try replace f_251 : x_251.toInt = x1.toInt + 27 := by omega
          clear l_251 u_251
          have g_278 := z_rng (A_33 40 (x1.toInt + 26).toNat)
          obtain ⟨f_264, l_264, u_264⟩ := z_add ex_264 rfl rfl
          try replace f_264 : x_264.toInt = x_251.toInt + (A_33 40 (x1.toInt + 26).toNat).toInt := by omega
          clear l_264 u_264
          have hn_277 : (x1.toInt + 26).toNat ≠ (x1.toInt + (A_33 40 (x1.toInt + 26).toNat).toInt + 27).toNat := by omega
          have hn_279 : (x1.toInt + 26).toNat ≠ (x1.toInt + 14).toNat := by omega
          have hn_280 : (x1.toInt + 26).toNat ≠ (x1.toInt + 43).toNat := by omega
          have hn_281 : (x1.toInt + 26).toNat ≠ (x1.toInt + (A_33 40 (x1.toInt + 43).toNat).toInt + 830).toNat := by omega
          have hn_282 : (x1.toInt + 26).toNat ≠ (x1.toInt + (A_33 40 (x1.toInt + 43).toNat).toInt + 770).toNat := by omega
          have hn_283 : (x1.toInt + 26).toNat ≠ (x1.toInt + (A_33 40 (x1.toInt + 43).toNat).toInt + 710).toNat := by omega
          have hn_284 : (x1.toInt + 26).toNat ≠ (x1.toInt + (A_33 40 (x1.toInt + 43).toNat).toInt + 650).toNat := by omega
          have ev_285 : A_269 40 (x1.toInt + 26).toNat = A_33 40 (x1.toInt + 26).toNat := by rw [hE_269, va_up_self, pk_un hn_277, hE_249, va_up_self, pk_un hn_279, hE_244, va_up_self, pk_un hn_280, hE_231, va_up_self, pk_un hn_281, hE_224, va_up_self, pk_un hn_282, hE_210, va_up_self, pk_un hn_283, hE_191, va_up_self, pk_un hn_284]
          rw [ev_285]
          refine lv_iadd hx hb dX12_doLay_256 ?_
          refine lv_topi (fun x_286 ex_286 => ?_)
          refine lv_iload_n hx hb dX12_doLay_257 rfl (lv_at hl 5 rfl) ?_
          have hi_hr_287 : zEq x_286.toInt (x1.toInt + (A_33 40 (x1.toInt + 26).toNat).toInt + 31) := by
            obtain ⟨f_272, l_272, u_272⟩ := z_add ex_272 rfl ti_31
            try replace f_272 : x_272.toInt = x1.toInt + 31 := by omega
            clear l_272 u_272
            obtain ⟨f_286, l_286, u_286⟩ := z_add ex_286 rfl rfl
            try replace f_286 : x_286.toInt = x_272.toInt + (A_33 40 (x1.toInt + 26).toNat).toInt := by omega
            clear l_286 u_286
            show x_286.toInt = (x1.toInt + (A_33 40 (x1.toInt + 26).toNat).toInt + 31)
            omega
          have hl_hr_287 : 31 ≤ (A_33 40 (x1.toInt + 26).toNat).toInt + 31 ∧ (A_33 40 (x1.toInt + 26).toNat).toInt + 31 ≤ 34 := by
            omega
          have hid_hr_287 : (x1.toInt + (A_33 40 (x1.toInt + 26).toNat).toInt + 31) = x1.toInt + ((A_33 40 (x1.toInt + 26).toNat).toInt + 31) := by simp only [Int.add_assoc, Int.add_sub_assoc]
          have hr_287 := z_cell (lo := 31) (hi := 34) hp0 hi_hr_287 hid_hr_287 hl_hr_287 (by decide)
          replace hid_hr_287 : zEq (x1.toInt + (A_33 40 (x1.toInt + 26).toNat).toInt + 31) (x1.toInt + ((A_33 40 (x1.toInt + 26).toNat).toInt + 31)) := hid_hr_287
          have hin_288 : vp_in x_286 (zn K (zr K a0 0)) := vp_in_iff.mpr (by rw [(hf_1.2.2 (by decide))]; exact hr_287.in)
          have g_290 := z_rng x3
          refine mst_40 C hM hs hP hS hf_1.1 hT hf_1.2.1 hin_288 (tp_31 hr_287 (show 0 ≤ x3.toInt ∧ x3.toInt ≤ 3 from by omega)) dX12_doLay_258 (fun A_289 H locs hE_289 hT hP hS => ?_)
          have ep_291 : x_286.toNatClampNeg = (x1.toInt + (A_33 40 (x1.toInt + 26).toNat).toInt + 31).toNat := z_posE hi_hr_287
          rw [ep_291] at hE_289
          have FA := frA FA (frAu hE_289) (by decide)
          have FC := fC.tr FC (fC.st (b := x1.toInt) (lo := 31) (hi := 34) hE_289 hb0.1 (by decide) hid_hr_287 hl_hr_287) (by decide)
          have WZ := wz.st WZ hE_289 (Or.inr (by omega))
          refine lv_aload_n hx hb dX12_doLay_259 rfl (lv_at hl 2 rfl) ?_
          refine mg_0 C hs hP ha0 hk0 wf_X12_8 dX12_doLay_260 ?_
          refine lv_iload_n hx hb dX12_doLay_263 rfl (lv_at hl 3 rfl) ?_
          refine lv_bipush (v := 26) hx hb dX12_doLay_264 (by decide) ?_
          refine lv_iadd hx hb dX12_doLay_266 ?_
          refine lv_topi (fun x_292 ex_292 => ?_)
          refine lv_dup2_11 hx hb dX12_doLay_267 rfl rfl ?_
          have hi_hr_293 : zEq x_292.toInt (x1.toInt + 26) := by
            obtain ⟨f_292, l_292, u_292⟩ := z_add ex_292 rfl ti_26
            try replace f_292 : x_292.toInt = x1.toInt + 26 := by omega
            clear l_292 u_292
            show x_292.toInt = (x1.toInt + 26)
            omega
          have hl_hr_293 : (26 : Int) ≤ 26 ∧ 26 ≤ (26 : Int) := by decide
          have hid_hr_293 : (x1.toInt + 26) = x1.toInt + (26) := by simp only [Int.add_assoc, Int.add_sub_assoc]
          have hr_293 := z_cell (lo := 26) (hi := 26) hp0 hi_hr_293 hid_hr_293 hl_hr_293 (by decide)
          replace hid_hr_293 : zEq (x1.toInt + 26) (x1.toInt + (26)) := hid_hr_293
          have hin_294 : vp_in x_292 (zn K (zr K a0 0)) := vp_in_iff.mpr (by rw [(hf_1.2.2 (by decide))]; exact hr_293.in)
          refine mld_40 C hs hP hf_1.1 hf_1.2.1 hin_294 dX12_doLay_268 ?_
          have ep_295 : x_292.toNatClampNeg = (x1.toInt + 26).toNat := z_posE hi_hr_293
          rw [ep_295]
          obtain ⟨f_292, l_292, u_292⟩ := z_add ex_292 rfl ti_26
          try replace f_292 : x_292.toInt = x1.toInt + 26 := by omega
          clear l_292 u_292
          obtain ⟨f_272, l_272, u_272⟩ := z_add ex_272 rfl ti_31
          try replace f_272 : x_272.toInt = x1.toInt + 31 := by omega
          clear l_272 u_272
          obtain ⟨f_286, l_286, u_286⟩ := z_add ex_286 rfl rfl
          try replace f_286 : x_286.toInt = x_272.toInt + (A_33 40 (x1.toInt + 26).toNat).toInt := by omega
          clear l_286 u_286
          have hn_296 : (x1.toInt + 26).toNat ≠ (x1.toInt + (A_33 40 (x1.toInt + 26).toNat).toInt + 31).toNat := by omega
          have hn_297 : (x1.toInt + 26).toNat ≠ (x1.toInt + (A_33 40 (x1.toInt + 26).toNat).toInt + 27).toNat := by omega
          have hn_298 : (x1.toInt + 26).toNat ≠ (x1.toInt + 14).toNat := by omega
          have hn_299 : (x1.toInt + 26).toNat ≠ (x1.toInt + 43).toNat := by omega
          have hn_300 : (x1.toInt + 26).toNat ≠ (x1.toInt + (A_33 40 (x1.toInt + 43).toNat).toInt + 830).toNat := by omega
          have hn_301 : (x1.toInt + 26).toNat ≠ (x1.toInt + (A_33 40 (x1.toInt + 43).toNat).toInt + 770).toNat := by omega
          have hn_302 : (x1.toInt + 26).toNat ≠ (x1.toInt + (A_33 40 (x1.toInt + 43).toNat).toInt + 710).toNat := by omega
          have hn_303 : (x1.toInt + 26).toNat ≠ (x1.toInt + (A_33 40 (x1.toInt + 43).toNat).toInt + 650).toNat := by omega
          have ev_304 : A_289 40 (x1.toInt + 26).toNat = A_33 40 (x1.toInt + 26).toNat := by rw [hE_289, va_up_self, pk_un hn_296, hE_269, va_up_self, pk_un hn_297, hE_249, va_up_self, pk_un hn_298, hE_244, va_up_self, pk_un hn_299, hE_231, va_up_self, pk_un hn_300, hE_224, va_up_self, pk_un hn_301, hE_210, va_up_self, pk_un hn_302, hE_191, va_up_self, pk_un hn_303]
          rw [ev_304]
          refine lv_iconst (v := 1) hx hb dX12_doLay_269 (by decide) ?_
          refine lv_iadd hx hb dX12_doLay_270 ?_
          refine lv_topi (fun x_305 ex_305 => ?_)
          have hin_306 : vp_in x_292 (zn K (zr K a0 0)) := vp_in_iff.mpr (by rw [(hf_1.2.2 (by decide))]; exact hr_293.in)
          obtain ⟨f_305, l_305, u_305⟩ := z_add ex_305 rfl ti_1
          try replace f_305 : x_305.toInt = (A_33 40 (x1.toInt + 26).toNat).toInt + 1 := by omega
          clear l_305 u_305
          refine mst_40 C hM hs hP hS hf_1.1 hT hf_1.2.1 hin_306 (tp_26 hr_293 (show 0 ≤ x_305.toInt ∧ x_305.toInt ≤ 4 from by omega)) dX12_doLay_271 (fun A_307 H locs hE_307 hT hP hS => ?_)
          have ep_308 : x_292.toNatClampNeg = (x1.toInt + 26).toNat := z_posE hi_hr_293
          rw [ep_308] at hE_307
          have FA := frA FA (frAu hE_307) (by decide)
          have FC := fC.tr FC (fC.st (b := x1.toInt) (lo := 26) (hi := 26) hE_307 hb0.1 (by decide) hid_hr_293 hl_hr_293) (by decide)
          have WZ := wz.st WZ hE_307 (Or.inr (by omega))
          refine lv_aload_n hx hb dX12_doLay_272 rfl (lv_at hl 2 rfl) ?_
          refine mg_0 C hs hP ha0 hk0 wf_X12_8 dX12_doLay_273 ?_
          refine lv_iload_n hx hb dX12_doLay_276 rfl (lv_at hl 3 rfl) ?_
          refine lv_bipush (v := 110) hx hb dX12_doLay_277 (by decide) ?_
          refine lv_iadd hx hb dX12_doLay_279 ?_
          refine lv_topi (fun x_309 ex_309 => ?_)
          refine lv_iload hx hb dX12_doLay_280 (lv_at hl 1 rfl) ?_
          refine lv_iadd hx hb dX12_doLay_282 ?_
          refine lv_topi (fun x_310 ex_310 => ?_)
          refine lv_iconst (v := 5) hx hb dX12_doLay_283 (by decide) ?_
          have hi_hr_311 : zEq x_310.toInt (x1.toInt + (A 40 (x1.toInt + 60 * x3.toInt + x4.toInt + 230).toNat).toInt + 110) := by
            obtain ⟨f_309, l_309, u_309⟩ := z_add ex_309 rfl ti_110
            try replace f_309 : x_309.toInt = x1.toInt + 110 := by omega
            clear l_309 u_309
            obtain ⟨f_310, l_310, u_310⟩ := z_add ex_310 rfl rfl
            try replace f_310 : x_310.toInt = x_309.toInt + (A 40 (x1.toInt + 60 * x3.toInt + x4.toInt + 230).toNat).toInt := by omega
            clear l_310 u_310
            show x_310.toInt = (x1.toInt + (A 40 (x1.toInt + 60 * x3.toInt + x4.toInt + 230).toNat).toInt + 110)
            omega
          have hl_hr_311 : 110 ≤ (A 40 (x1.toInt + 60 * x3.toInt + x4.toInt + 230).toNat).toInt + 110 ∧ (A 40 (x1.toInt + 60 * x3.toInt + x4.toInt + 230).toNat).toInt + 110 ≤ 169 := by
            omega
          have hid_hr_311 : (x1.toInt + (A 40 (x1.toInt + 60 * x3.toInt + x4.toInt + 230).toNat).toInt + 110) = x1.toInt + ((A 40 (x1.toInt + 60 * x3.toInt + x4.toInt + 230).toNat).toInt + 110) := by simp only [Int.add_assoc, Int.add_sub_assoc]
          have hr_311 := z_cell (lo := 45) (hi := 169) hp0 hi_hr_311 hid_hr_311 hl_hr_311 (by decide)
          replace hid_hr_311 : zEq (x1.toInt + (A 40 (x1.toInt + 60 * x3.toInt + x4.toInt + 230).toNat).toInt + 110) (x1.toInt + ((A 40 (x1.toInt + 60 * x3.toInt + x4.toInt + 230).toNat).toInt + 110)) := hid_hr_311
          have hin_312 : vp_in x_310 (zn K (zr K a0 0)) := vp_in_iff.mpr (by rw [(hf_1.2.2 (by decide))]; exact hr_311.in)
          refine mst_40 C hM hs hP hS hf_1.1 hT hf_1.2.1 hin_312 (tp_45 hr_311) dX12_doLay_284 (fun A_313 H locs hE_313 hT hP hS => ?_)
          have ep_314 : x_310.toNatClampNeg = (x1.toInt + (A 40 (x1.toInt + 60 * x3.toInt + x4.toInt + 230).toNat).toInt + 110).toNat := z_posE hi_hr_311
          rw [ep_314] at hE_313
          have FA := frA FA (frAu hE_313) (by decide)
          have FC := fC.tr FC (fC.st (b := x1.toInt) (lo := 110) (hi := 169) hE_313 hb0.1 (by decide) hid_hr_311 hl_hr_311) (by decide)
          have WZ := wz.st WZ hE_313 (Or.inl (by rw [ti_5]; decide))
          refine lv_aload_n hx hb dX12_doLay_285 rfl (lv_at hl 2 rfl) ?_
          refine lv_iload_n hx hb dX12_doLay_286 rfl (lv_at hl 3 rfl) ?_
          refine lv_iload_n hx hb dX12_doLay_287 rfl (lv_at hl 5 rfl) ?_
          refine lv_aload_n hx hb dX12_doLay_288 rfl (lv_at hl 2 rfl) ?_
          refine lv_iload_n hx hb dX12_doLay_289 rfl (lv_at hl 3 rfl) ?_
          refine lv_iload hx hb dX12_doLay_290 (lv_at hl 1 rfl) ?_
          have hq_315 : 0 ≤ (A 40 (x1.toInt + 60 * x3.toInt + x4.toInt + 230).toNat).toInt ∧ (A 40 (x1.toInt + 60 * x3.toInt + x4.toInt + 230).toNat).toInt ≤ 59 := by (first | assumption | omega | (intros; omega))
          refine zcS (zrV (As := [.int x1, .int (A 40 (x1.toInt + 60 * x3.toInt + x4.toInt + 230).toNat)]) (b := a0) (rest := [.int x3, .int x1, .ref a0]) C hs hP hS (c_X12_colour l D K hM f A_313 hT a0 ha0 hk0 x1 (A 40 (x1.toInt + 60 * x3.toInt + x4.toInt + 230).toNat) hp0 hq_315) m_X12_colour wm_X12_120 (zrecv hs hP ha0 (zF_11 hk0) rfl) ⟨by decide, by decide⟩ hl.1 (Nat.le_of_ble_eq_true rfl) dX12_doLay_292) (fun x_316 p_316 => ?_)
          have pp_316 : x_316 = mcol (A_313 40) x1 (A 40 (x1.toInt + 60 * x3.toInt + x4.toInt + 230).toNat) := p_316
          have pq_316 := congrArg Int32.toInt pp_316
          have g_317 := z_rng x_316
          have hq_318 : 0 ≤ x3.toInt ∧ x3.toInt ≤ 3 := by (first | assumption | omega | (intros; omega))
          refine mcV (zrV (As := [.int x1, .int x3, .int x_316]) (b := a0) (rest := []) C hs hP hS (c_X12_showFound l D K hM f A_313 hT a0 ha0 hk0 x1 x3 x_316 hp0 hq_318) m_X12_showFound wm_X12_214 (zrecv hs hP ha0 (zF_11 hk0) rfl) ⟨by decide, by decide⟩ hl.1 (Nat.le_of_ble_eq_true rfl) dX12_doLay_295) hS (fun f_319 A_319 H locs p_319 hP hS => ?_)
          obtain ⟨hT, hA_319, hF_319, hC_319, hW_319⟩ := p_319
          have FA := frA FA hA_319 (by decide)
          have FF := frF FF hF_319 (by decide)
          have FC := fC.tr FC hC_319 (by decide)
          have WZ := wz.tr WZ hW_319
          refine lv_aload_n hx hb dX12_doLay_298 rfl (lv_at hl 2 rfl) ?_
          refine mg_0 C hs hP ha0 hk0 wf_X12_8 dX12_doLay_299 ?_
          refine lv_iload_n hx hb dX12_doLay_302 rfl (lv_at hl 3 rfl) ?_
          refine lv_bipush (v := 9) hx hb dX12_doLay_303 (by decide) ?_
          refine lv_iadd hx hb dX12_doLay_305 ?_
          refine lv_topi (fun x_320 ex_320 => ?_)
          refine lv_aload_n hx hb dX12_doLay_306 rfl (lv_at hl 2 rfl) ?_
          refine lv_iload_n hx hb dX12_doLay_307 rfl (lv_at hl 3 rfl) ?_
          refine lv_iload_n hx hb dX12_doLay_308 rfl (lv_at hl 5 rfl) ?_
          refine lv_iconst (v := 1) hx hb dX12_doLay_309 (by decide) ?_
          refine lv_iadd hx hb dX12_doLay_310 ?_
          refine lv_topi (fun x_321 ex_321 => ?_)
          refine lv_iconst (v := 4) hx hb dX12_doLay_311 (by decide) ?_
          refine lv_irem hx hb dX12_doLay_312 (by decide) ?_
          refine lv_topi (fun x_322 ex_322 => ?_)
          obtain ⟨f_321, l_321, u_321⟩ := z_add ex_321 rfl ti_1
          try replace f_321 : x_321.toInt = x3.toInt + 1 := by omega
          clear l_321 u_321
          have f_322 := z_rem ex_322 rfl ti_4 (by decide)
          have hq_323 : 0 ≤ x_322.toInt ∧ x_322.toInt ≤ 4 := by (first | assumption | omega | (intros; omega))
          refine zcS (zrV (As := [.int x1, .int x_322]) (b := a0) (rest := [.int x_320, .ref (zr K a0 0)]) C hs hP hS (c_X12_seatFrom l D K hM f_319 A_319 hT a0 ha0 hk0 x1 x_322 hp0 hq_323) m_X12_seatFrom wm_X12_162 (zrecv hs hP ha0 (zF_11 hk0) rfl) ⟨by decide, by decide⟩ hl.1 (Nat.le_of_ble_eq_true rfl) dX12_doLay_313) (fun x_324 p_324 => ?_)
          have pp_324 : (x_324.toInt = -1 ∨ (0 ≤ x_324.toInt ∧ x_324.toInt ≤ 3 ∧ 1 ≤ (A_319 40 (x1.toInt + x_324.toInt + 22).toNat).toInt ∧ nL (A_319 40) x1.toInt x_324.toInt (A_319 40 (x1.toInt + 26).toNat).toInt)) := p_324
          have tRs := hT.row hp0
          have FCs := FC
          have WZs := WZ
          have rq_325 : ∀ j : Int, x1.toInt + 22 ≤ j → j ≤ x1.toInt + 25 → A_319 40 j.toNat = A_33 40 j.toNat := fun j h1 h2 => by rw [hC_319.ar hb0.1 (lo := 22) (hi := 25) (by decide) j (by decide) (by omega) (by omega), hE_313, va_up_self, pk_un (show j.toNat ≠ (x1.toInt + (A 40 (x1.toInt + 60 * x3.toInt + x4.toInt + 230).toNat).toInt + 110).toNat by omega), hE_307, va_up_self, pk_un (show j.toNat ≠ (x1.toInt + 26).toNat by omega), hE_289, va_up_self, pk_un (show j.toNat ≠ (x1.toInt + (A_33 40 (x1.toInt + 26).toNat).toInt + 31).toNat by omega), hE_269, va_up_self, pk_un (show j.toNat ≠ (x1.toInt + (A_33 40 (x1.toInt + 26).toNat).toInt + 27).toNat by omega), hE_249, va_up_self, pk_un (show j.toNat ≠ (x1.toInt + 14).toNat by omega), hE_244, va_up_self, pk_un (show j.toNat ≠ (x1.toInt + 43).toNat by omega), hE_231, va_up_self, pk_un (show j.toNat ≠ (x1.toInt + (A_33 40 (x1.toInt + 43).toNat).toInt + 830).toNat by omega), hE_224, va_up_self, pk_un (show j.toNat ≠ (x1.toInt + (A_33 40 (x1.toInt + 43).toNat).toInt + 770).toNat by omega), hE_210, va_up_self, pk_un (show j.toNat ≠ (x1.toInt + (A_33 40 (x1.toInt + 43).toNat).toInt + 710).toNat by omega), hE_191, va_up_self, pk_un (show j.toNat ≠ (x1.toInt + (A_33 40 (x1.toInt + 43).toNat).toInt + 650).toNat by omega)]
          obtain ⟨f_309, l_309, u_309⟩ := z_add ex_309 rfl ti_110
          try replace f_309 : x_309.toInt = x1.toInt + 110 := by omega
          clear l_309 u_309
          obtain ⟨f_310, l_310, u_310⟩ := z_add ex_310 rfl rfl
          try replace f_310 : x_310.toInt = x_309.toInt + (A 40 (x1.toInt + 60 * x3.toInt + x4.toInt + 230).toNat).toInt := by omega
          clear l_310 u_310
          have es_326 : A_319 40 (x1.toInt + 26).toNat = x_305 := by rw [hC_319 (x1.toInt + 26) (by omega) (by simp only [List.mem_cons, List.not_mem_nil, or_false, forall_eq_or_imp, forall_eq]; omega), hE_313, va_up_self, pk_un (show (x1.toInt + 26).toNat ≠ (x1.toInt + (A 40 (x1.toInt + 60 * x3.toInt + x4.toInt + 230).toNat).toInt + 110).toNat by omega), hE_307, va_up_self, pk_us]
          have es_327 : A_319 40 (x1.toInt + 20).toNat = A_33 40 (x1.toInt + 20).toNat := by rw [hC_319 (x1.toInt + 20) (by omega) (by simp only [List.mem_cons, List.not_mem_nil, or_false, forall_eq_or_imp, forall_eq]; omega), hE_313, va_up_self, pk_un (show (x1.toInt + 20).toNat ≠ (x1.toInt + (A 40 (x1.toInt + 60 * x3.toInt + x4.toInt + 230).toNat).toInt + 110).toNat by omega), hE_307, va_up_self, pk_un (show (x1.toInt + 20).toNat ≠ (x1.toInt + 26).toNat by omega), hE_289, va_up_self, pk_un (show (x1.toInt + 20).toNat ≠ (x1.toInt + (A_33 40 (x1.toInt + 26).toNat).toInt + 31).toNat by omega), hE_269, va_up_self, pk_un (show (x1.toInt + 20).toNat ≠ (x1.toInt + (A_33 40 (x1.toInt + 26).toNat).toInt + 27).toNat by omega), hE_249, va_up_self, pk_un (show (x1.toInt + 20).toNat ≠ (x1.toInt + 14).toNat by omega), hE_244, va_up_self, pk_un (show (x1.toInt + 20).toNat ≠ (x1.toInt + 43).toNat by omega), hE_231, va_up_self, pk_un (show (x1.toInt + 20).toNat ≠ (x1.toInt + (A_33 40 (x1.toInt + 43).toNat).toInt + 830).toNat by omega), hE_224, va_up_self, pk_un (show (x1.toInt + 20).toNat ≠ (x1.toInt + (A_33 40 (x1.toInt + 43).toNat).toInt + 770).toNat by omega), hE_210, va_up_self, pk_un (show (x1.toInt + 20).toNat ≠ (x1.toInt + (A_33 40 (x1.toInt + 43).toNat).toInt + 710).toNat by omega), hE_191, va_up_self, pk_un (show (x1.toInt + 20).toNat ≠ (x1.toInt + (A_33 40 (x1.toInt + 43).toNat).toInt + 650).toNat by omega)]
          have es_328 : A_319 40 (x1.toInt + 43).toNat = x_242 := by rw [hC_319 (x1.toInt + 43) (by omega) (by simp only [List.mem_cons, List.not_mem_nil, or_false, forall_eq_or_imp, forall_eq]; omega), hE_313, va_up_self, pk_un (show (x1.toInt + 43).toNat ≠ (x1.toInt + (A 40 (x1.toInt + 60 * x3.toInt + x4.toInt + 230).toNat).toInt + 110).toNat by omega), hE_307, va_up_self, pk_un (show (x1.toInt + 43).toNat ≠ (x1.toInt + 26).toNat by omega), hE_289, va_up_self, pk_un (show (x1.toInt + 43).toNat ≠ (x1.toInt + (A_33 40 (x1.toInt + 26).toNat).toInt + 31).toNat by omega), hE_269, va_up_self, pk_un (show (x1.toInt + 43).toNat ≠ (x1.toInt + (A_33 40 (x1.toInt + 26).toNat).toInt + 27).toNat by omega), hE_249, va_up_self, pk_un (show (x1.toInt + 43).toNat ≠ (x1.toInt + 14).toNat by omega), hE_244, va_up_self, pk_us]
          have rKs := hp3.2.2.fw hb0.1 FC WZ tR0.p1.2 tR0.p21.2 (by decide) (by decide) (by decide)
          have e21s := FC.ar hb0.1 (lo := 21) (hi := 21) (by decide) (x1.toInt + 21) (by decide) (by omega) (by omega)
          have els : ∀ i : Int, 0 ≤ i → i < (A 40 (x1.toInt + 26).toNat).toInt → A_319 40 (x1.toInt + i + 31).toNat = A 40 (x1.toInt + i + 31).toNat := fun i h1 h2 => by
            rw [hC_319.ar hb0.1 (lo := 31) (hi := 34) (by decide) (x1.toInt + i + 31) (by decide) (by omega) (by omega), hE_313, va_up_self, pk_un (show (x1.toInt + i + 31).toNat ≠ (x1.toInt + (A 40 (x1.toInt + 60 * x3.toInt + x4.toInt + 230).toNat).toInt + 110).toNat by omega), hE_307, va_up_self, pk_un (show (x1.toInt + i + 31).toNat ≠ (x1.toInt + 26).toNat by omega), hE_289, va_up_self, pk_un (show (x1.toInt + i + 31).toNat ≠ (x1.toInt + (A_33 40 (x1.toInt + 26).toNat).toInt + 31).toNat by omega), hE_269, va_up_self, pk_un (show (x1.toInt + i + 31).toNat ≠ (x1.toInt + (A_33 40 (x1.toInt + 26).toNat).toInt + 27).toNat by omega), hE_249, va_up_self, pk_un (show (x1.toInt + i + 31).toNat ≠ (x1.toInt + 14).toNat by omega), hE_244, va_up_self, pk_un (show (x1.toInt + i + 31).toNat ≠ (x1.toInt + 43).toNat by omega), hE_231, va_up_self, pk_un (show (x1.toInt + i + 31).toNat ≠ (x1.toInt + (A_33 40 (x1.toInt + 43).toNat).toInt + 830).toNat by omega), hE_224, va_up_self, pk_un (show (x1.toInt + i + 31).toNat ≠ (x1.toInt + (A_33 40 (x1.toInt + 43).toNat).toInt + 770).toNat by omega), hE_210, va_up_self, pk_un (show (x1.toInt + i + 31).toNat ≠ (x1.toInt + (A_33 40 (x1.toInt + 43).toNat).toInt + 710).toNat by omega), hE_191, va_up_self, pk_un (show (x1.toInt + i + 31).toNat ≠ (x1.toInt + (A_33 40 (x1.toInt + 43).toNat).toInt + 650).toNat by omega)]
            exact iv_33_1.ar hb0.1 (lo := 31) (hi := 34) (by decide) (x1.toInt + i + 31) (by decide) (by omega) (by omega)
          have ens : (A_319 40 (x1.toInt + (A 40 (x1.toInt + 26).toNat).toInt + 31).toNat).toInt = x3.toInt := by
            rw [← e26q]
            rw [hC_319.ar hb0.1 (lo := 31) (hi := 34) (by decide) (x1.toInt + (A_33 40 (x1.toInt + 26).toNat).toInt + 31) (by decide) (by omega) (by omega), hE_313, va_up_self, pk_un (show (x1.toInt + (A_33 40 (x1.toInt + 26).toNat).toInt + 31).toNat ≠ (x1.toInt + (A 40 (x1.toInt + 60 * x3.toInt + x4.toInt + 230).toNat).toInt + 110).toNat by omega), hE_307, va_up_self, pk_un (show (x1.toInt + (A_33 40 (x1.toInt + 26).toNat).toInt + 31).toNat ≠ (x1.toInt + 26).toNat by omega), hE_289, va_up_self, pk_us]
          have rPs := rowP.dl (C1 := A_319 40) hp3 tR0 hp1 hp4 (by omega) (by unfold hd; rw [rq_325 (x1.toInt + x3.toInt + 22) (by omega) (by omega)]; exact iv_33_2) (fun q9 h1 h2 h3 => by unfold hd; rw [rq_325 (x1.toInt + q9 + 22) (by omega) (by omega), iv_33_3 q9 h1 h2 h3]) (by rw [e21s]) (by rw [es_327, e20q]) (by rw [es_326]; omega) (by rw [es_328]; omega) els ens rKs
          have hi_hr_329 : zEq x_320.toInt (x1.toInt + 9) := by
            obtain ⟨f_320, l_320, u_320⟩ := z_add ex_320 rfl ti_9
            try replace f_320 : x_320.toInt = x1.toInt + 9 := by omega
            clear l_320 u_320
            show x_320.toInt = (x1.toInt + 9)
            omega
          have hl_hr_329 : (9 : Int) ≤ 9 ∧ 9 ≤ (9 : Int) := by decide
          have hid_hr_329 : (x1.toInt + 9) = x1.toInt + (9) := by simp only [Int.add_assoc, Int.add_sub_assoc]
          have hr_329 := z_cell (lo := 9) (hi := 9) hp0 hi_hr_329 hid_hr_329 hl_hr_329 (by decide)
          replace hid_hr_329 : zEq (x1.toInt + 9) (x1.toInt + (9)) := hid_hr_329
          have hin_330 : vp_in x_320 (zn K (zr K a0 0)) := vp_in_iff.mpr (by rw [(hf_1.2.2 (by decide))]; exact hr_329.in)
          have g_332 := z_rng x_324
          refine mst_40 C hM hs hP hS hf_1.1 hT hf_1.2.1 hin_330 (tp_9 hr_329 (show -1 ≤ x_324.toInt ∧ x_324.toInt ≤ 3 from by omega)) dX12_doLay_316 (fun A_331 H locs hE_331 hT hP hS => ?_)
          have ep_333 : x_320.toNatClampNeg = (x1.toInt + 9).toNat := z_posE hi_hr_329
          rw [ep_333] at hE_331
          have FA := frA FA (frAu hE_331) (by decide)
          have FC := fC.tr FC (fC.st (b := x1.toInt) (lo := 9) (hi := 9) hE_331 hb0.1 (by decide) hid_hr_329 hl_hr_329) (by decide)
          have WZ := wz.st WZ hE_331 (Or.inr (by omega))
          have hRN := rowN.nx rPs tRs hb0.1 hE_331 pp_324
          refine lv_aload_n hx hb dX12_doLay_317 rfl (lv_at hl 2 rfl) ?_
          refine mg_0 C hs hP ha0 hk0 wf_X12_8 dX12_doLay_318 ?_
          refine lv_iload_n hx hb dX12_doLay_321 rfl (lv_at hl 3 rfl) ?_
          refine lv_bipush (v := 9) hx hb dX12_doLay_322 (by decide) ?_
          refine lv_iadd hx hb dX12_doLay_324 ?_
          refine lv_topi (fun x_334 ex_334 => ?_)
          have hi_hr_335 : zEq x_334.toInt (x1.toInt + 9) := by
            obtain ⟨f_334, l_334, u_334⟩ := z_add ex_334 rfl ti_9
            try replace f_334 : x_334.toInt = x1.toInt + 9 := by omega
            clear l_334 u_334
            show x_334.toInt = (x1.toInt + 9)
            omega
          have hl_hr_335 : (9 : Int) ≤ 9 ∧ 9 ≤ (9 : Int) := by decide
          have hid_hr_335 : (x1.toInt + 9) = x1.toInt + (9) := by simp only [Int.add_assoc, Int.add_sub_assoc]
          have hr_335 := z_cell (lo := 9) (hi := 9) hp0 hi_hr_335 hid_hr_335 hl_hr_335 (by decide)
          replace hid_hr_335 : zEq (x1.toInt + 9) (x1.toInt + (9)) := hid_hr_335
          have hin_336 : vp_in x_334 (zn K (zr K a0 0)) := vp_in_iff.mpr (by rw [(hf_1.2.2 (by decide))]; exact hr_335.in)
          refine mld_40 C hs hP hf_1.1 hf_1.2.1 hin_336 dX12_doLay_325 ?_
          have ep_337 : x_334.toNatClampNeg = (x1.toInt + 9).toNat := z_posE hi_hr_335
          rw [ep_337]
          have ev_338 : A_331 40 (x1.toInt + 9).toNat = x_324 := by rw [hE_331, va_up_self, pk_us]
          have tv_339 := rv_9 hT hr_335
          rw [ep_337] at tv_339
          rw [ev_338] at tv_339
          rw [ev_338]
          refine lv_iconst (v := (-1)) hx hb dX12_doLay_326 (by decide) ?_
          refine bi_ne (tgt := 336) hx hb rfl ti_m1 dX12_doLay_327 (by decide) (fun c_340 => ?_) (fun c_340 => ?_)
          · skip
            have ev_341 : f_319 9 = f 9 := by rw [hF_319 9 (by decide)]
            have ev_342 : f_319 11 = f 11 := by rw [hF_319 11 (by decide)]
            exact maV hQ hx hb hr hlk hP hS ⟨hT, FA, FF, FC, WZ, ⟨by rw [ev_341] <;> omega, by rw [ev_341] <;> omega, by rw [ev_342] <;> omega, by rw [ev_342] <;> omega, fun h9 => by rw [ev_342] <;> omega, hRN⟩⟩ dX12_doLay_336
          · skip
            refine lv_aload_n hx hb dX12_doLay_330 rfl (lv_at hl 2 rfl) ?_
            refine lv_iload_n hx hb dX12_doLay_331 rfl (lv_at hl 3 rfl) ?_
            refine lv_iload_n hx hb dX12_doLay_332 rfl (lv_at hl 4 rfl) ?_
            have g_343 := z_rng x2
            have hq_344 : rowP (A_331 40) x1.toInt := by exact hRN.1
            obtain ⟨f_320, l_320, u_320⟩ := z_add ex_320 rfl ti_9
            try replace f_320 : x_320.toInt = x1.toInt + 9 := by omega
            clear l_320 u_320
            have es_346 : A_331 40 (x1.toInt + 26).toNat = x_305 := by rw [hE_331, va_up_self, pk_un (show (x1.toInt + 26).toNat ≠ (x1.toInt + 9).toNat by omega), hC_319 (x1.toInt + 26) (by omega) (by simp only [List.mem_cons, List.not_mem_nil, or_false, forall_eq_or_imp, forall_eq]; omega), hE_313, va_up_self, pk_un (show (x1.toInt + 26).toNat ≠ (x1.toInt + (A 40 (x1.toInt + 60 * x3.toInt + x4.toInt + 230).toNat).toInt + 110).toNat by omega), hE_307, va_up_self, pk_us]
            have hq_345 : 1 ≤ (A_331 40 (x1.toInt + 26).toNat).toInt := by rw [es_346] <;> (first | assumption | omega | (intros; omega))
            have ev_348 : f_319 11 = f 11 := by rw [hF_319 11 (by decide)]
            have hq_347 : (f_319 11).toInt ≤ 1960000000 := by rw [ev_348] <;> (first | assumption | omega | (intros; omega))
            have ev_350 : f_319 9 = f 9 := by rw [hF_319 9 (by decide)]
            have hq_349 : (f_319 9).toInt ≤ 1960000000 := by rw [ev_350] <;> (first | assumption | omega | (intros; omega))
            refine mcV (zrV (As := [.int x1, .int x2]) (b := a0) (rest := []) C hs hP hS (c_X12_endTrick l D K hM f_319 A_331 hT a0 ha0 hk0 x1 x2 hp0 hq_344 hq_345 hq_347 hq_349) m_X12_endTrick wm_X12_217 (zrecv hs hP ha0 (zF_11 hk0) rfl) ⟨by decide, by decide⟩ hl.1 (Nat.le_of_ble_eq_true rfl) dX12_doLay_333) hS (fun f_351 A_351 H locs p_351 hP hS => ?_)
            obtain ⟨hT, hA_351, hF_351, hC_351, hW_351, pp_351⟩ := p_351
            have pp_351 : (f_319 9).toInt ≤ (f_351 9).toInt ∧ (f_351 9).toInt ≤ (f_319 9).toInt + 2 ∧ (f_319 11).toInt ≤ (f_351 11).toInt ∧ (f_351 11).toInt ≤ (f_319 11).toInt + 13 ∧ ((f_319 12).toInt ≠ 0 → (f_351 11).toInt = (f_319 11).toInt) ∧ rowN (A_351 40) x1.toInt := pp_351
            have pp0_351 := pp_351
            have ev_352 : f_319 11 = f 11 := by rw [hF_319 11 (by decide)]
            have ev_353 : f_319 12 = f 12 := by rw [hF_319 12 (by decide)]
            have ev_354 : f_319 9 = f 9 := by rw [hF_319 9 (by decide)]
            rw [ev_352, ev_353, ev_354] at pp_351
            have FA := frA FA hA_351 (by decide)
            have FF := frF FF hF_351 (by decide)
            have FC := fC.tr FC hC_351 (by decide)
            have WZ := wz.tr WZ hW_351
            have hRN := pp0_351.2.2.2.2.2
            exact maV hQ hx hb hr hlk hP hS ⟨hT, FA, FF, FC, WZ, ⟨by omega, by omega, by omega, by omega, fun h9 => by omega, hRN⟩⟩ dX12_doLay_336
      · skip
        refine lv_aload_n hx hb dX12_doLay_55 rfl (lv_at hl 2 rfl) ?_
        refine mg_0 C hs hP ha0 hk0 wf_X12_8 dX12_doLay_56 ?_
        refine lv_iload_n hx hb dX12_doLay_59 rfl (lv_at hl 3 rfl) ?_
        refine lv_sipush (v := 230) hx hb dX12_doLay_60 (by decide) ?_
        refine lv_iadd hx hb dX12_doLay_63 ?_
        refine lv_topi (fun x_355 ex_355 => ?_)
        refine lv_bipush (v := 60) hx hb dX12_doLay_64 (by decide) ?_
        refine lv_iload_n hx hb dX12_doLay_66 rfl (lv_at hl 5 rfl) ?_
        refine lv_imul hx hb dX12_doLay_67 ?_
        refine lv_topi (fun x_356 ex_356 => ?_)
        refine lv_iadd hx hb dX12_doLay_68 ?_
        refine lv_topi (fun x_357 ex_357 => ?_)
        refine lv_iload hx hb dX12_doLay_69 (lv_at hl 0 rfl) ?_
        refine lv_iadd hx hb dX12_doLay_71 ?_
        refine lv_topi (fun x_358 ex_358 => ?_)
        refine lv_aload_n hx hb dX12_doLay_72 rfl (lv_at hl 2 rfl) ?_
        refine mg_0 C hs hP ha0 hk0 wf_X12_8 dX12_doLay_73 ?_
        refine lv_iload_n hx hb dX12_doLay_76 rfl (lv_at hl 3 rfl) ?_
        refine lv_sipush (v := 230) hx hb dX12_doLay_77 (by decide) ?_
        refine lv_iadd hx hb dX12_doLay_80 ?_
        refine lv_topi (fun x_359 ex_359 => ?_)
        refine lv_bipush (v := 60) hx hb dX12_doLay_81 (by decide) ?_
        refine lv_iload_n hx hb dX12_doLay_83 rfl (lv_at hl 5 rfl) ?_
        refine lv_imul hx hb dX12_doLay_84 ?_
        refine lv_topi (fun x_360 ex_360 => ?_)
        refine lv_iadd hx hb dX12_doLay_85 ?_
        refine lv_topi (fun x_361 ex_361 => ?_)
        refine lv_iload hx hb dX12_doLay_86 (lv_at hl 0 rfl) ?_
        refine lv_iadd hx hb dX12_doLay_88 ?_
        refine lv_topi (fun x_362 ex_362 => ?_)
        refine lv_iconst (v := 1) hx hb dX12_doLay_89 (by decide) ?_
        refine lv_iadd hx hb dX12_doLay_90 ?_
        refine lv_topi (fun x_363 ex_363 => ?_)
        have hi_hr_364 : zEq x_363.toInt (x1.toInt + 60 * x3.toInt + y_31.toInt + 231) := by
          have g_365 := z_rng x1
          obtain ⟨f_359, l_359, u_359⟩ := z_add ex_359 rfl ti_230
          try replace f_359 : x_359.toInt = x1.toInt + 230 := by omega
          clear l_359 u_359
          have g_366 := z_rng x3
          obtain ⟨f_360, l_360, u_360⟩ := z_mul ex_360 ti_60 rfl
          try replace f_360 : x_360.toInt = 60 * x3.toInt := by omega
          clear l_360 u_360
          obtain ⟨f_361, l_361, u_361⟩ := z_add ex_361 rfl rfl
          try replace f_361 : x_361.toInt = x_359.toInt + x_360.toInt := by omega
          clear l_361 u_361
          have g_367 := z_rng y_31
          obtain ⟨f_362, l_362, u_362⟩ := z_add ex_362 rfl rfl
          try replace f_362 : x_362.toInt = x_361.toInt + y_31.toInt := by omega
          clear l_362 u_362
          obtain ⟨f_363, l_363, u_363⟩ := z_add ex_363 rfl ti_1
          try replace f_363 : x_363.toInt = x_362.toInt + 1 := by omega
          clear l_363 u_363
          show x_363.toInt = (x1.toInt + 60 * x3.toInt + y_31.toInt + 231)
          omega
        have hl_hr_364 : 230 ≤ 60 * x3.toInt + y_31.toInt + 231 ∧ 60 * x3.toInt + y_31.toInt + 231 ≤ 469 := by
          have g_368 := z_rng x1
          have g_369 := z_rng x3
          have g_370 := z_rng y_31
          omega
        have hid_hr_364 : (x1.toInt + 60 * x3.toInt + y_31.toInt + 231) = x1.toInt + (60 * x3.toInt + y_31.toInt + 231) := by simp only [Int.add_assoc, Int.add_sub_assoc]
        have hr_364 := z_cell (lo := 170) (hi := 469) hp0 hi_hr_364 hid_hr_364 hl_hr_364 (by decide)
        replace hid_hr_364 : zEq (x1.toInt + 60 * x3.toInt + y_31.toInt + 231) (x1.toInt + (60 * x3.toInt + y_31.toInt + 231)) := hid_hr_364
        have hin_371 : vp_in x_363 (zn K (zr K a0 0)) := vp_in_iff.mpr (by rw [(hf_1.2.2 (by decide))]; exact hr_364.in)
        refine mld_40 C hs hP hf_1.1 hf_1.2.1 hin_371 dX12_doLay_91 ?_
        have ep_372 : x_363.toNatClampNeg = (x1.toInt + 60 * x3.toInt + y_31.toInt + 231).toNat := z_posE hi_hr_364
        rw [ep_372]
        have tv_373 := rv_170 hT hr_364
        rw [ep_372] at tv_373
        have hi_hr_374 : zEq x_358.toInt (x1.toInt + 60 * x3.toInt + y_31.toInt + 230) := by
          have g_375 := z_rng x1
          obtain ⟨f_355, l_355, u_355⟩ := z_add ex_355 rfl ti_230
          try replace f_355 : x_355.toInt = x1.toInt + 230 := by omega
          clear l_355 u_355
          have g_376 := z_rng x3
          obtain ⟨f_356, l_356, u_356⟩ := z_mul ex_356 ti_60 rfl
          try replace f_356 : x_356.toInt = 60 * x3.toInt := by omega
          clear l_356 u_356
          obtain ⟨f_357, l_357, u_357⟩ := z_add ex_357 rfl rfl
          try replace f_357 : x_357.toInt = x_355.toInt + x_356.toInt := by omega
          clear l_357 u_357
          have g_377 := z_rng y_31
          obtain ⟨f_358, l_358, u_358⟩ := z_add ex_358 rfl rfl
          try replace f_358 : x_358.toInt = x_357.toInt + y_31.toInt := by omega
          clear l_358 u_358
          show x_358.toInt = (x1.toInt + 60 * x3.toInt + y_31.toInt + 230)
          omega
        have hl_hr_374 : 230 ≤ 60 * x3.toInt + y_31.toInt + 230 ∧ 60 * x3.toInt + y_31.toInt + 230 ≤ 469 := by
          have g_378 := z_rng x1
          have g_379 := z_rng x3
          have g_380 := z_rng y_31
          omega
        have hid_hr_374 : (x1.toInt + 60 * x3.toInt + y_31.toInt + 230) = x1.toInt + (60 * x3.toInt + y_31.toInt + 230) := by simp only [Int.add_assoc, Int.add_sub_assoc]
        have hr_374 := z_cell (lo := 170) (hi := 469) hp0 hi_hr_374 hid_hr_374 hl_hr_374 (by decide)
        replace hid_hr_374 : zEq (x1.toInt + 60 * x3.toInt + y_31.toInt + 230) (x1.toInt + (60 * x3.toInt + y_31.toInt + 230)) := hid_hr_374
        have hin_381 : vp_in x_358 (zn K (zr K a0 0)) := vp_in_iff.mpr (by rw [(hf_1.2.2 (by decide))]; exact hr_374.in)
        have g_383 := z_rng (A_33 40 (x1.toInt + 60 * x3.toInt + y_31.toInt + 231).toNat)
        refine mst_40 C hM hs hP hS hf_1.1 hT hf_1.2.1 hin_381 (tp_170 hr_374 (show 0 ≤ (A_33 40 (x1.toInt + 60 * x3.toInt + y_31.toInt + 231).toNat).toInt ∧ (A_33 40 (x1.toInt + 60 * x3.toInt + y_31.toInt + 231).toNat).toInt ≤ 59 from by omega)) dX12_doLay_92 (fun A_382 H locs hE_382 hT hP hS => ?_)
        have ep_384 : x_358.toNatClampNeg = (x1.toInt + 60 * x3.toInt + y_31.toInt + 230).toNat := z_posE hi_hr_374
        rw [ep_384] at hE_382
        have FA := frA FA (frAu hE_382) (by decide)
        have FC := fC.tr FC (fC.st (b := x1.toInt) (lo := 230) (hi := 469) hE_382 hb0.1 (by decide) hid_hr_374 hl_hr_374) (by decide)
        have WZ := wz.st WZ hE_382 (Or.inr (by omega))
        obtain ⟨x_385, ex_385⟩ : ∃ y : Int32, y = y_31 + 1 := ⟨_, rfl⟩
        refine lv_iinc (v := x_385) (lv' := [(6, .int x_385), (5, .int (A 40 (x1.toInt + 60 * x3.toInt + x4.toInt + 230).toNat)), (0, .ref a0), (1, .int x1), (2, .int x2), (3, .int x3), (4, .int x4)]) hx hb dX12_doLay_93 hl (k := 0) rfl (by rw [ex_385]; rfl) (by decide) rfl (fun ls hl => ?_)
        refine lv_goto (tgt := 39) hx hb dX12_doLay_96 (by decide) ?_
        have g_386 := z_rng y_31
        obtain ⟨f_385, l_385, u_385⟩ := z_add ex_385 rfl ti_1
        try replace f_385 : x_385.toInt = y_31.toInt + 1 := by omega
        clear l_385 u_385
        have g_387 := z_rng (A_33 40 (x1.toInt + x3.toInt + 22).toNat)
        have fq_388 : fC (A 40) (A_382 40) x1.toInt ([(22, 25), (230, 469)] : List (Int × Int)) := fun j hj hh => by
          have h9 := hh
          simp only [List.mem_cons, List.not_mem_nil, or_false, forall_eq_or_imp, forall_eq] at h9
          rw [hE_382, va_up_self, pk_un (show j.toNat ≠ (x1.toInt + 60 * x3.toInt + y_31.toInt + 230).toNat by omega)]
          exact iv_33_1 j hj hh
        exact ih_32 A_382 _ _ x_385 _ (by omega) (by omega) fq_388 (by rw [hE_382, va_up_self, pk_un (by omega)]; exact iv_33_2) (fun q9 h1 h2 h3 => by rw [hE_382, va_up_self, pk_un (by omega)]; exact iv_33_3 q9 h1 h2 h3) FA FC WZ hT hP hS (lv_sub hl [0, 1, 2, 3, 4, 5, 6] rfl)
  have g_389 := z_rng x4
  have fq_390 : fC (A 40) (A_28 40) x1.toInt ([(22, 25), (230, 469)] : List (Int × Int)) := fun j hj hh => by
    have h9 := hh
    simp only [List.mem_cons, List.not_mem_nil, or_false, forall_eq_or_imp, forall_eq] at h9
    rw [hE_28, va_up_self, pk_un (show j.toNat ≠ (x1.toInt + x3.toInt + 22).toNat by omega)]
  exact L_39_32 _ A_28 _ _ x4 _ (Nat.lt_succ_self _) (Int.le_refl _) fq_390 (by rw [hE_28, va_up_self, pk_us]; omega) (fun q9 h1 h2 h3 => by rw [hE_28, va_up_self, pk_un (by omega)]) FA FC WZ hT hP hS (lv_sub hl [0, 1, 2, 3, 4, 5, 6] rfl)
set_option maxHeartbeats 4000000 in
set_option maxRecDepth 100000 in
theorem c_X12_doClaim (l : Launch) (D : va_G) (K : zK) (hM : mK K) (f : Nat → Int32) (A : Nat → Nat → Int32) (hT : mT f A) (a0 : Nat) (ha0 : a0 ∈ zl K) (hk0 : zk K a0 = 11) (x1 : Int32) (x2 : Int32) (x3 : Int32) (x4 : Int32) (hp0 : zRow x1.toInt) (hp1 : 0 ≤ x3.toInt ∧ x3.toInt ≤ 1) (hp2 : rowP (A 40) x1.toInt) (hp3 : (f 11).toInt ≤ 1960000000) (hp4 : (f 9).toInt ≤ 1960000000) : Met l yX12_doClaim (zc yX12_doClaim cX12_doClaim 9 none) (rmd 3) (va_Pc [.ref a0, .int x1, .int x2, .int x3, .int x4] (zB D K (mV K f A))) (mQv D K (fun f' A' => mT f' A' ∧ (∀ k, k ∉ ([40, 48, 50] : List Nat) → A' k = A k) ∧ (∀ k, k ∉ ([9, 11] : List Nat) → f' k = f k) ∧ fC (A 40) (A' 40) x1.toInt ([(5, 5), (9, 9), (15, 18), (22, 25), (39, 42), (110, 169)] : List (Int × Int)) ∧ wz (A 40) (A' 40) x1.toInt ∧ (f 9).toInt ≤ (f' 9).toInt ∧ (f' 9).toInt ≤ (f 9).toInt + 2 ∧ (f 11).toInt ≤ (f' 11).toInt ∧ (f' 11).toInt ≤ (f 11).toInt + 6 ∧ ((f 12).toInt ≠ 0 → (f' 11).toInt = (f 11).toInt) ∧ rowN (A' 40) x1.toInt)) 0 0 (zA K) := by
  refine zin (by decide) (Nat.le_of_ble_eq_true rfl) ?_
  intro p e s m args below meth c ls Q hQ C hr hlk hP hs hl
  have C : CallFix p m c cX12_doClaim 9 s args zw RX12 := C
  obtain ⟨hx, hb, hml, hown, hts⟩ := id C
  have hO := hM.1
  have hS : va_S (zA K) s.heap s.heap [] := va_S.rf
  have FA : ∀ k, k ∉ ([40, 48, 50] : List Nat) → A k = A k := fun _ _ => rfl
  have FF : ∀ k, k ∉ ([9, 11] : List Nat) → f k = f k := fun _ _ => rfl
  have FC : fC (A 40) (A 40) x1.toInt ([(5, 5), (9, 9), (15, 18), (22, 25), (39, 42), (110, 169)] : List (Int × Int)) := fun _ _ _ => rfl
  have hl : lv_has ls 9 [(0, .ref a0), (1, .int x1), (2, .int x2), (3, .int x3), (4, .int x4)] := hl
  have hb0 := hp0.lin
  have tR0 := hT.row hp0
  refine lv_iconst (v := 0) hx hb dX12_doClaim_0 (by decide) ?_
  refine lv_istore (lv' := [(5, .int 0), (0, .ref a0), (1, .int x1), (2, .int x2), (3, .int x3), (4, .int x4)]) hx hb dX12_doClaim_1 hl (by decide) rfl (fun ls hl => ?_)
  refine lv_iconst (v := 0) hx hb dX12_doClaim_3 (by decide) ?_
  refine lv_istore (lv' := [(6, .int 0), (5, .int 0), (0, .ref a0), (1, .int x1), (2, .int x2), (3, .int x3), (4, .int x4)]) hx hb dX12_doClaim_4 hl (by decide) rfl (fun ls hl => ?_)
  have L_6_3 : ∀ (n_3 : Nat) (y_1 : Int32) (y_2 : Int32) (ls : Array Slot), (2147483648 - y_1.toInt).toNat < n_3 → 0 ≤ y_1.toInt → lv_has ls 9 [(6, .int y_1), (5, .int y_2), (0, .ref a0), (1, .int x1), (2, .int x2), (3, .int x3), (4, .int x4)] → W p l e (rmd 3) s m args below meth c s.heap [] 0 0 Q (F0 m 6 ls []) := by
    intro n_3
    induction n_3 with
    | zero => intro y_1 y_2 ls hm_3; exact absurd hm_3 (Nat.not_lt_zero _)
    | succ n_3 ih_3 =>
      intro y_1 y_2 ls hm_3 iv_4_0 hl
      refine lv_iload hx hb dX12_doClaim_6 (lv_at hl 0 rfl) ?_
      refine lv_iconst (v := 4) hx hb dX12_doClaim_8 (by decide) ?_
      refine bi_ge (tgt := 37) hx hb rfl ti_4 dX12_doClaim_9 (by decide) (fun c_5 => ?_) (fun c_5 => ?_)
      · skip
        refine lv_iconst (v := 1) hx hb dX12_doClaim_37 (by decide) ?_
        refine lv_iload_n hx hb dX12_doClaim_38 rfl (lv_at hl 5 rfl) ?_
        refine lv_isub hx hb dX12_doClaim_39 ?_
        refine lv_topi (fun x_22 ex_22 => ?_)
        refine lv_istore (lv' := [(6, .int x_22), (5, .int y_2), (0, .ref a0), (1, .int x1), (2, .int x2), (3, .int x3), (4, .int x4)]) hx hb dX12_doClaim_40 hl (by decide) rfl (fun ls hl => ?_)
        refine lv_aload_n hx hb dX12_doClaim_42 rfl (lv_at hl 2 rfl) ?_
        refine mg_0 C hs hP ha0 hk0 wf_X12_8 dX12_doClaim_43 ?_
        have hf_23 := hO.r (j := 0) ha0 hk0 (rfl : zX 11 0 = some (40, 47730))
        refine lv_iload_n hx hb dX12_doClaim_46 rfl (lv_at hl 3 rfl) ?_
        refine lv_bipush (v := 15) hx hb dX12_doClaim_47 (by decide) ?_
        refine lv_iadd hx hb dX12_doClaim_49 ?_
        refine lv_topi (fun x_24 ex_24 => ?_)
        refine lv_iload_n hx hb dX12_doClaim_50 rfl (lv_at hl 5 rfl) ?_
        refine lv_iadd hx hb dX12_doClaim_51 ?_
        refine lv_topi (fun x_25 ex_25 => ?_)
        refine lv_dup2_11 hx hb dX12_doClaim_52 rfl rfl ?_
        have hi_hr_26 : zEq x_25.toInt (x1.toInt + x3.toInt + 15) := by
          have g_27 := z_rng x1
          obtain ⟨f_24, l_24, u_24⟩ := z_add ex_24 rfl ti_15
          try replace f_24 : x_24.toInt = x1.toInt + 15 := by omega
          clear l_24 u_24
          have g_28 := z_rng x3
          obtain ⟨f_25, l_25, u_25⟩ := z_add ex_25 rfl rfl
          try replace f_25 : x_25.toInt = x_24.toInt + x3.toInt := by omega
          clear l_25 u_25
          show x_25.toInt = (x1.toInt + x3.toInt + 15)
          omega
        have hl_hr_26 : 15 ≤ x3.toInt + 15 ∧ x3.toInt + 15 ≤ 16 := by
          have g_29 := z_rng x1
          have g_30 := z_rng x3
          omega
        have hid_hr_26 : (x1.toInt + x3.toInt + 15) = x1.toInt + (x3.toInt + 15) := by simp only [Int.add_assoc, Int.add_sub_assoc]
        have hr_26 := z_cell (lo := 10) (hi := 19) hp0 hi_hr_26 hid_hr_26 hl_hr_26 (by decide)
        replace hid_hr_26 : zEq (x1.toInt + x3.toInt + 15) (x1.toInt + (x3.toInt + 15)) := hid_hr_26
        have hin_31 : vp_in x_25 (zn K (zr K a0 0)) := vp_in_iff.mpr (by rw [(hf_23.2.2 (by decide))]; exact hr_26.in)
        refine mld_40 C hs hP hf_23.1 hf_23.2.1 hin_31 dX12_doClaim_53 ?_
        have ep_32 : x_25.toNatClampNeg = (x1.toInt + x3.toInt + 15).toNat := z_posE hi_hr_26
        rw [ep_32]
        refine lv_iload hx hb dX12_doClaim_54 (lv_at hl 6 rfl) ?_
        refine lv_iadd hx hb dX12_doClaim_56 ?_
        refine lv_topi (fun x_33 ex_33 => ?_)
        have hin_34 : vp_in x_25 (zn K (zr K a0 0)) := vp_in_iff.mpr (by rw [(hf_23.2.2 (by decide))]; exact hr_26.in)
        refine mst_40 C hM hs hP hS hf_23.1 hT hf_23.2.1 hin_34 (tp_10 hr_26) dX12_doClaim_57 (fun A_35 H locs hE_35 hT hP hS => ?_)
        have ep_36 : x_25.toNatClampNeg = (x1.toInt + x3.toInt + 15).toNat := z_posE hi_hr_26
        rw [ep_36] at hE_35
        have FA := frA FA (frAu hE_35) (by decide)
        have FC := fC.tr FC (fC.st (b := x1.toInt) (lo := 15) (hi := 16) hE_35 hb0.1 (by decide) hid_hr_26 hl_hr_26) (by decide)
        have WZ := wz.st WZ hE_35 (Or.inr (by omega))
        refine lv_aload_n hx hb dX12_doClaim_58 rfl (lv_at hl 2 rfl) ?_
        refine mg_0 C hs hP ha0 hk0 wf_X12_8 dX12_doClaim_59 ?_
        refine lv_iload_n hx hb dX12_doClaim_62 rfl (lv_at hl 3 rfl) ?_
        refine lv_bipush (v := 17) hx hb dX12_doClaim_63 (by decide) ?_
        refine lv_iadd hx hb dX12_doClaim_65 ?_
        refine lv_topi (fun x_37 ex_37 => ?_)
        refine lv_iload_n hx hb dX12_doClaim_66 rfl (lv_at hl 5 rfl) ?_
        refine lv_iadd hx hb dX12_doClaim_67 ?_
        refine lv_topi (fun x_38 ex_38 => ?_)
        refine lv_dup2_11 hx hb dX12_doClaim_68 rfl rfl ?_
        have hi_hr_39 : zEq x_38.toInt (x1.toInt + x3.toInt + 17) := by
          have g_40 := z_rng x1
          obtain ⟨f_37, l_37, u_37⟩ := z_add ex_37 rfl ti_17
          try replace f_37 : x_37.toInt = x1.toInt + 17 := by omega
          clear l_37 u_37
          have g_41 := z_rng x3
          obtain ⟨f_38, l_38, u_38⟩ := z_add ex_38 rfl rfl
          try replace f_38 : x_38.toInt = x_37.toInt + x3.toInt := by omega
          clear l_38 u_38
          show x_38.toInt = (x1.toInt + x3.toInt + 17)
          omega
        have hl_hr_39 : 17 ≤ x3.toInt + 17 ∧ x3.toInt + 17 ≤ 18 := by
          have g_42 := z_rng x1
          have g_43 := z_rng x3
          omega
        have hid_hr_39 : (x1.toInt + x3.toInt + 17) = x1.toInt + (x3.toInt + 17) := by simp only [Int.add_assoc, Int.add_sub_assoc]
        have hr_39 := z_cell (lo := 10) (hi := 19) hp0 hi_hr_39 hid_hr_39 hl_hr_39 (by decide)
        replace hid_hr_39 : zEq (x1.toInt + x3.toInt + 17) (x1.toInt + (x3.toInt + 17)) := hid_hr_39
        have hin_44 : vp_in x_38 (zn K (zr K a0 0)) := vp_in_iff.mpr (by rw [(hf_23.2.2 (by decide))]; exact hr_39.in)
        refine mld_40 C hs hP hf_23.1 hf_23.2.1 hin_44 dX12_doClaim_69 ?_
        have ep_45 : x_38.toNatClampNeg = (x1.toInt + x3.toInt + 17).toNat := z_posE hi_hr_39
        rw [ep_45]
        have g_47 := z_rng x1
        obtain ⟨f_37, l_37, u_37⟩ := z_add ex_37 rfl ti_17
        try replace f_37 : x_37.toInt = x1.toInt + 17 := by omega
        clear l_37 u_37
        have g_48 := z_rng x3
        obtain ⟨f_38, l_38, u_38⟩ := z_add ex_38 rfl rfl
        try replace f_38 : x_38.toInt = x_37.toInt + x3.toInt := by omega
        clear l_38 u_38
        obtain ⟨f_24, l_24, u_24⟩ := z_add ex_24 rfl ti_15
        try replace f_24 : x_24.toInt = x1.toInt + 15 := by omega
        clear l_24 u_24
        obtain ⟨f_25, l_25, u_25⟩ := z_add ex_25 rfl rfl
        try replace f_25 : x_25.toInt = x_24.toInt + x3.toInt := by omega
        clear l_25 u_25
        have hn_46 : (x1.toInt + x3.toInt + 17).toNat ≠ (x1.toInt + x3.toInt + 15).toNat := by omega
        have ev_49 : A_35 40 (x1.toInt + x3.toInt + 17).toNat = A 40 (x1.toInt + x3.toInt + 17).toNat := by rw [hE_35, va_up_self, pk_un hn_46]
        rw [ev_49]
        refine lv_iload hx hb dX12_doClaim_70 (lv_at hl 6 rfl) ?_
        refine lv_iadd hx hb dX12_doClaim_72 ?_
        refine lv_topi (fun x_50 ex_50 => ?_)
        have hin_51 : vp_in x_38 (zn K (zr K a0 0)) := vp_in_iff.mpr (by rw [(hf_23.2.2 (by decide))]; exact hr_39.in)
        refine mst_40 C hM hs hP hS hf_23.1 hT hf_23.2.1 hin_51 (tp_10 hr_39) dX12_doClaim_73 (fun A_52 H locs hE_52 hT hP hS => ?_)
        have ep_53 : x_38.toNatClampNeg = (x1.toInt + x3.toInt + 17).toNat := z_posE hi_hr_39
        rw [ep_53] at hE_52
        have FA := frA FA (frAu hE_52) (by decide)
        have FC := fC.tr FC (fC.st (b := x1.toInt) (lo := 17) (hi := 18) hE_52 hb0.1 (by decide) hid_hr_39 hl_hr_39) (by decide)
        have WZ := wz.st WZ hE_52 (Or.inr (by omega))
        refine lv_aload_n hx hb dX12_doClaim_74 rfl (lv_at hl 2 rfl) ?_
        refine mg_0 C hs hP ha0 hk0 wf_X12_8 dX12_doClaim_75 ?_
        refine lv_iload_n hx hb dX12_doClaim_78 rfl (lv_at hl 3 rfl) ?_
        refine lv_bipush (v := 15) hx hb dX12_doClaim_79 (by decide) ?_
        refine lv_iadd hx hb dX12_doClaim_81 ?_
        refine lv_topi (fun x_54 ex_54 => ?_)
        refine lv_iload hx hb dX12_doClaim_82 (lv_at hl 0 rfl) ?_
        refine lv_iadd hx hb dX12_doClaim_84 ?_
        refine lv_topi (fun x_55 ex_55 => ?_)
        refine lv_dup2_11 hx hb dX12_doClaim_85 rfl rfl ?_
        have hi_hr_56 : zEq x_55.toInt (x1.toInt + -1 * x3.toInt + 16) := by
          obtain ⟨f_54, l_54, u_54⟩ := z_add ex_54 rfl ti_15
          try replace f_54 : x_54.toInt = x1.toInt + 15 := by omega
          clear l_54 u_54
          obtain ⟨f_22, l_22, u_22⟩ := z_sub ex_22 ti_1 rfl
          try replace f_22 : x_22.toInt = 1 - x3.toInt := by omega
          clear l_22 u_22
          obtain ⟨f_55, l_55, u_55⟩ := z_add ex_55 rfl rfl
          try replace f_55 : x_55.toInt = x_54.toInt + x_22.toInt := by omega
          clear l_55 u_55
          show x_55.toInt = (x1.toInt + -1 * x3.toInt + 16)
          omega
        have hl_hr_56 : 15 ≤ -1 * x3.toInt + 16 ∧ -1 * x3.toInt + 16 ≤ 16 := by
          omega
        have hid_hr_56 : (x1.toInt + -1 * x3.toInt + 16) = x1.toInt + (-1 * x3.toInt + 16) := by simp only [Int.add_assoc, Int.add_sub_assoc]
        have hr_56 := z_cell (lo := 10) (hi := 19) hp0 hi_hr_56 hid_hr_56 hl_hr_56 (by decide)
        replace hid_hr_56 : zEq (x1.toInt + -1 * x3.toInt + 16) (x1.toInt + (-1 * x3.toInt + 16)) := hid_hr_56
        have hin_57 : vp_in x_55 (zn K (zr K a0 0)) := vp_in_iff.mpr (by rw [(hf_23.2.2 (by decide))]; exact hr_56.in)
        refine mld_40 C hs hP hf_23.1 hf_23.2.1 hin_57 dX12_doClaim_86 ?_
        have ep_58 : x_55.toNatClampNeg = (x1.toInt + -1 * x3.toInt + 16).toNat := z_posE hi_hr_56
        rw [ep_58]
        refine lv_iload hx hb dX12_doClaim_87 (lv_at hl 1 rfl) ?_
        refine lv_iload hx hb dX12_doClaim_89 (lv_at hl 6 rfl) ?_
        refine lv_isub hx hb dX12_doClaim_91 ?_
        refine lv_topi (fun x_59 ex_59 => ?_)
        refine lv_iadd hx hb dX12_doClaim_92 ?_
        refine lv_topi (fun x_60 ex_60 => ?_)
        have hin_61 : vp_in x_55 (zn K (zr K a0 0)) := vp_in_iff.mpr (by rw [(hf_23.2.2 (by decide))]; exact hr_56.in)
        refine mst_40 C hM hs hP hS hf_23.1 hT hf_23.2.1 hin_61 (tp_10 hr_56) dX12_doClaim_93 (fun A_62 H locs hE_62 hT hP hS => ?_)
        have ep_63 : x_55.toNatClampNeg = (x1.toInt + -1 * x3.toInt + 16).toNat := z_posE hi_hr_56
        rw [ep_63] at hE_62
        have FA := frA FA (frAu hE_62) (by decide)
        have FC := fC.tr FC (fC.st (b := x1.toInt) (lo := 15) (hi := 16) hE_62 hb0.1 (by decide) hid_hr_56 hl_hr_56) (by decide)
        have WZ := wz.st WZ hE_62 (Or.inr (by omega))
        refine lv_aload_n hx hb dX12_doClaim_94 rfl (lv_at hl 2 rfl) ?_
        refine mg_0 C hs hP ha0 hk0 wf_X12_8 dX12_doClaim_95 ?_
        refine lv_iload_n hx hb dX12_doClaim_98 rfl (lv_at hl 3 rfl) ?_
        refine lv_bipush (v := 17) hx hb dX12_doClaim_99 (by decide) ?_
        refine lv_iadd hx hb dX12_doClaim_101 ?_
        refine lv_topi (fun x_64 ex_64 => ?_)
        refine lv_iload hx hb dX12_doClaim_102 (lv_at hl 0 rfl) ?_
        refine lv_iadd hx hb dX12_doClaim_104 ?_
        refine lv_topi (fun x_65 ex_65 => ?_)
        refine lv_dup2_11 hx hb dX12_doClaim_105 rfl rfl ?_
        have hi_hr_66 : zEq x_65.toInt (x1.toInt + -1 * x3.toInt + 18) := by
          obtain ⟨f_64, l_64, u_64⟩ := z_add ex_64 rfl ti_17
          try replace f_64 : x_64.toInt = x1.toInt + 17 := by omega
          clear l_64 u_64
          obtain ⟨f_22, l_22, u_22⟩ := z_sub ex_22 ti_1 rfl
          try replace f_22 : x_22.toInt = 1 - x3.toInt := by omega
          clear l_22 u_22
          obtain ⟨f_65, l_65, u_65⟩ := z_add ex_65 rfl rfl
          try replace f_65 : x_65.toInt = x_64.toInt + x_22.toInt := by omega
          clear l_65 u_65
          show x_65.toInt = (x1.toInt + -1 * x3.toInt + 18)
          omega
        have hl_hr_66 : 17 ≤ -1 * x3.toInt + 18 ∧ -1 * x3.toInt + 18 ≤ 18 := by
          omega
        have hid_hr_66 : (x1.toInt + -1 * x3.toInt + 18) = x1.toInt + (-1 * x3.toInt + 18) := by simp only [Int.add_assoc, Int.add_sub_assoc]
        have hr_66 := z_cell (lo := 10) (hi := 19) hp0 hi_hr_66 hid_hr_66 hl_hr_66 (by decide)
        replace hid_hr_66 : zEq (x1.toInt + -1 * x3.toInt + 18) (x1.toInt + (-1 * x3.toInt + 18)) := hid_hr_66
        have hin_67 : vp_in x_65 (zn K (zr K a0 0)) := vp_in_iff.mpr (by rw [(hf_23.2.2 (by decide))]; exact hr_66.in)
        refine mld_40 C hs hP hf_23.1 hf_23.2.1 hin_67 dX12_doClaim_106 ?_
        have ep_68 : x_65.toNatClampNeg = (x1.toInt + -1 * x3.toInt + 18).toNat := z_posE hi_hr_66
        rw [ep_68]
        obtain ⟨f_64, l_64, u_64⟩ := z_add ex_64 rfl ti_17
        try replace f_64 : x_64.toInt = x1.toInt + 17 := by omega
        clear l_64 u_64
        obtain ⟨f_22, l_22, u_22⟩ := z_sub ex_22 ti_1 rfl
        try replace f_22 : x_22.toInt = 1 - x3.toInt := by omega
        clear l_22 u_22
        obtain ⟨f_65, l_65, u_65⟩ := z_add ex_65 rfl rfl
        try replace f_65 : x_65.toInt = x_64.toInt + x_22.toInt := by omega
        clear l_65 u_65
        obtain ⟨f_54, l_54, u_54⟩ := z_add ex_54 rfl ti_15
        try replace f_54 : x_54.toInt = x1.toInt + 15 := by omega
        clear l_54 u_54
        obtain ⟨f_55, l_55, u_55⟩ := z_add ex_55 rfl rfl
        try replace f_55 : x_55.toInt = x_54.toInt + x_22.toInt := by omega
        clear l_55 u_55
        have hn_69 : (x1.toInt + -1 * x3.toInt + 18).toNat ≠ (x1.toInt + -1 * x3.toInt + 16).toNat := by omega
        have ev_70 : A_62 40 (x1.toInt + -1 * x3.toInt + 18).toNat = A_52 40 (x1.toInt + -1 * x3.toInt + 18).toNat := by rw [hE_62, va_up_self, pk_un hn_69]
        rw [ev_70]
        refine lv_iload hx hb dX12_doClaim_107 (lv_at hl 1 rfl) ?_
        refine lv_iload hx hb dX12_doClaim_109 (lv_at hl 6 rfl) ?_
        refine lv_isub hx hb dX12_doClaim_111 ?_
        refine lv_topi (fun x_71 ex_71 => ?_)
        refine lv_iadd hx hb dX12_doClaim_112 ?_
        refine lv_topi (fun x_72 ex_72 => ?_)
        have hin_73 : vp_in x_65 (zn K (zr K a0 0)) := vp_in_iff.mpr (by rw [(hf_23.2.2 (by decide))]; exact hr_66.in)
        refine mst_40 C hM hs hP hS hf_23.1 hT hf_23.2.1 hin_73 (tp_10 hr_66) dX12_doClaim_113 (fun A_74 H locs hE_74 hT hP hS => ?_)
        have ep_75 : x_65.toNatClampNeg = (x1.toInt + -1 * x3.toInt + 18).toNat := z_posE hi_hr_66
        rw [ep_75] at hE_74
        have FA := frA FA (frAu hE_74) (by decide)
        have FC := fC.tr FC (fC.st (b := x1.toInt) (lo := 17) (hi := 18) hE_74 hb0.1 (by decide) hid_hr_66 hl_hr_66) (by decide)
        have WZ := wz.st WZ hE_74 (Or.inr (by omega))
        refine lv_iconst (v := 0) hx hb dX12_doClaim_114 (by decide) ?_
        refine lv_istore (lv' := [(7, .int 0), (6, .int x_22), (5, .int y_2), (0, .ref a0), (1, .int x1), (2, .int x2), (3, .int x3), (4, .int x4)]) hx hb dX12_doClaim_115 hl (by decide) rfl (fun ls hl => ?_)
        have L_117_77 : ∀ (n_77 : Nat) (A_78 : Nat → Nat → Int32) (H : Heap) (locs : List Loc) (y_76 : Int32) (ls : Array Slot), (2147483648 - y_76.toInt).toNat < n_77 → 0 ≤ y_76.toInt → fC (A 40) (A_78 40) x1.toInt ([(15, 18), (22, 25), (110, 169)] : List (Int × Int)) → ∀ q : Int, 0 ≤ q → q ≤ 3 → (A_78 40 (x1.toInt + q + 22).toNat).toInt ≤ (A 40 (x1.toInt + q + 22).toNat).toInt → (∀ k, k ∉ ([40, 48, 50] : List Nat) → A_78 k = A k) → fC (A 40) (A_78 40) x1.toInt ([(5, 5), (9, 9), (15, 18), (22, 25), (39, 42), (110, 169)] : List (Int × Int)) → wz (A 40) (A_78 40) x1.toInt → mT f A_78 → va_P D vwCl (zW K (mV K f A_78)) H → va_S (zA K) s.heap H locs → lv_has ls 9 [(7, .int y_76), (6, .int x_22), (5, .int y_2), (0, .ref a0), (1, .int x1), (2, .int x2), (3, .int x3), (4, .int x4)] → W p l e (rmd 3) s m args below meth c H locs 0 0 Q (F0 m 117 ls []) := by
          intro n_77
          induction n_77 with
          | zero => intro A_78 H locs y_76 ls hm_77; exact absurd hm_77 (Nat.not_lt_zero _)
          | succ n_77 ih_77 =>
            intro A_78 H locs y_76 ls hm_77 iv_78_0 iv_78_1 iv_78_2 FA_78 FC_78 WZ_78 hT hP hS hl
            have FA := FA_78
            have FC := FC_78
            have WZ := WZ_78
            have FCc := FC
            have WZc := WZ
            refine lv_iload hx hb dX12_doClaim_117 (lv_at hl 0 rfl) ?_
            refine lv_iconst (v := 4) hx hb dX12_doClaim_119 (by decide) ?_
            refine bi_ge (tgt := 216) hx hb rfl ti_4 dX12_doClaim_120 (by decide) (fun c_80 => ?_) (fun c_80 => ?_)
            · skip
              refine lv_aload_n hx hb dX12_doClaim_216 rfl (lv_at hl 3 rfl) ?_
              refine lv_iload_n hx hb dX12_doClaim_217 rfl (lv_at hl 4 rfl) ?_
              refine lv_iload_n hx hb dX12_doClaim_218 rfl (lv_at hl 5 rfl) ?_
              have g_81 := z_rng x2
              have hq_82 : (f 11).toInt ≤ 1970000000 := by (first | assumption | omega | (intros; omega))
              have hq_83 : (f 9).toInt ≤ 1970000000 := by (first | assumption | omega | (intros; omega))
              refine mcV (zrV (As := [.int x1, .int x2]) (b := a0) (rest := []) C hs hP hS (c_X12_endDeal l D K hM f A_78 hT a0 ha0 hk0 x1 x2 hp0 hq_82 hq_83) m_X12_endDeal wm_X12_226 (zrecv hs hP ha0 (zF_11 hk0) rfl) ⟨by decide, by decide⟩ hl.1 (Nat.le_of_ble_eq_true rfl) dX12_doClaim_219) hS (fun f_84 A_84 H locs p_84 hP hS => ?_)
              obtain ⟨hT, hA_84, hF_84, hC_84, pp_84⟩ := p_84
              have pp_84 : (f 9).toInt ≤ (f_84 9).toInt ∧ (f_84 9).toInt ≤ (f 9).toInt + 2 ∧ (f 11).toInt ≤ (f_84 11).toInt ∧ (f_84 11).toInt ≤ (f 11).toInt + 6 ∧ ((f 12).toInt ≠ 0 → (f_84 11).toInt = (f 11).toInt) ∧ (rowP (A_78 40) x1.toInt → rowN (A_84 40) x1.toInt) := pp_84
              have pp0_84 := pp_84
              have FA := frA FA hA_84 (by decide)
              have FF := frF FF hF_84 (by decide)
              have FC := fC.tr FC hC_84 (by decide)
              have WZ := wz.fC WZ hC_84 (by omega) (by decide)
              have hRN := pp0_84.2.2.2.2.2 (rowP.cl hp2 tR0 hb0.1 FCc WZc iv_78_2 (by decide) (by decide) (by decide) (by decide) (by decide) (by decide) (by decide))
              exact maV hQ hx hb hr hlk hP hS ⟨hT, FA, FF, FC, WZ, ⟨by omega, by omega, by omega, by omega, fun h9 => by omega, hRN⟩⟩ dX12_doClaim_222
            · skip
              refine lv_iconst (v := 0) hx hb dX12_doClaim_123 (by decide) ?_
              refine lv_istore (lv' := [(8, .int 0), (7, .int y_76), (6, .int x_22), (5, .int y_2), (0, .ref a0), (1, .int x1), (2, .int x2), (3, .int x3), (4, .int x4)]) hx hb dX12_doClaim_124 hl (by decide) rfl (fun ls hl => ?_)
              have L_126_86 : ∀ (n_86 : Nat) (A_87 : Nat → Nat → Int32) (H : Heap) (locs : List Loc) (y_85 : Int32) (ls : Array Slot), (2147483648 - y_85.toInt).toNat < n_86 → 0 ≤ y_85.toInt → fC (A 40) (A_87 40) x1.toInt ([(15, 18), (22, 25), (110, 169)] : List (Int × Int)) → ∀ q : Int, 0 ≤ q → q ≤ 3 → (A_87 40 (x1.toInt + q + 22).toNat).toInt ≤ (A 40 (x1.toInt + q + 22).toNat).toInt → (∀ k, k ∉ ([40, 48, 50] : List Nat) → A_87 k = A k) → fC (A 40) (A_87 40) x1.toInt ([(5, 5), (9, 9), (15, 18), (22, 25), (39, 42), (110, 169)] : List (Int × Int)) → wz (A 40) (A_87 40) x1.toInt → mT f A_87 → va_P D vwCl (zW K (mV K f A_87)) H → va_S (zA K) s.heap H locs → lv_has ls 9 [(8, .int y_85), (7, .int y_76), (6, .int x_22), (5, .int y_2), (0, .ref a0), (1, .int x1), (2, .int x2), (3, .int x3), (4, .int x4)] → W p l e (rmd 3) s m args below meth c H locs 0 0 Q (F0 m 126 ls []) := by
                intro n_86
                induction n_86 with
                | zero => intro A_87 H locs y_85 ls hm_86; exact absurd hm_86 (Nat.not_lt_zero _)
                | succ n_86 ih_86 =>
                  intro A_87 H locs y_85 ls hm_86 iv_87_0 iv_87_1 iv_87_2 FA_87 FC_87 WZ_87 hT hP hS hl
                  have FA := FA_87
                  have FC := FC_87
                  have WZ := WZ_87
                  refine lv_iload hx hb dX12_doClaim_126 (lv_at hl 0 rfl) ?_
                  refine lv_aload_n hx hb dX12_doClaim_128 rfl (lv_at hl 4 rfl) ?_
                  refine mg_0 C hs hP ha0 hk0 wf_X12_8 dX12_doClaim_129 ?_
                  refine lv_iload_n hx hb dX12_doClaim_132 rfl (lv_at hl 5 rfl) ?_
                  refine lv_bipush (v := 22) hx hb dX12_doClaim_133 (by decide) ?_
                  refine lv_iadd hx hb dX12_doClaim_135 ?_
                  refine lv_topi (fun x_89 ex_89 => ?_)
                  refine lv_iload hx hb dX12_doClaim_136 (lv_at hl 1 rfl) ?_
                  refine lv_iadd hx hb dX12_doClaim_138 ?_
                  refine lv_topi (fun x_90 ex_90 => ?_)
                  have hi_hr_91 : zEq x_90.toInt (x1.toInt + y_76.toInt + 22) := by
                    obtain ⟨f_89, l_89, u_89⟩ := z_add ex_89 rfl ti_22
                    try replace f_89 : x_89.toInt = x1.toInt + 22 := by omega
                    clear l_89 u_89
                    have g_92 := z_rng y_76
                    obtain ⟨f_90, l_90, u_90⟩ := z_add ex_90 rfl rfl
                    try replace f_90 : x_90.toInt = x_89.toInt + y_76.toInt := by omega
                    clear l_90 u_90
                    show x_90.toInt = (x1.toInt + y_76.toInt + 22)
                    omega
                  have hl_hr_91 : 22 ≤ y_76.toInt + 22 ∧ y_76.toInt + 22 ≤ 25 := by
                    have g_93 := z_rng y_76
                    omega
                  have hid_hr_91 : (x1.toInt + y_76.toInt + 22) = x1.toInt + (y_76.toInt + 22) := by simp only [Int.add_assoc, Int.add_sub_assoc]
                  have hr_91 := z_cell (lo := 22) (hi := 25) hp0 hi_hr_91 hid_hr_91 hl_hr_91 (by decide)
                  replace hid_hr_91 : zEq (x1.toInt + y_76.toInt + 22) (x1.toInt + (y_76.toInt + 22)) := hid_hr_91
                  have hin_94 : vp_in x_90 (zn K (zr K a0 0)) := vp_in_iff.mpr (by rw [(hf_23.2.2 (by decide))]; exact hr_91.in)
                  refine mld_40 C hs hP hf_23.1 hf_23.2.1 hin_94 dX12_doClaim_139 ?_
                  have ep_95 : x_90.toNatClampNeg = (x1.toInt + y_76.toInt + 22).toNat := z_posE hi_hr_91
                  rw [ep_95]
                  have tv_96 := rv_22 hT hr_91
                  rw [ep_95] at tv_96
                  refine bi_ge (tgt := 182) hx hb rfl rfl dX12_doClaim_140 (by decide) (fun c_97 => ?_) (fun c_97 => ?_)
                  · skip
                    refine lv_aload_n hx hb dX12_doClaim_182 rfl (lv_at hl 4 rfl) ?_
                    refine mg_0 C hs hP ha0 hk0 wf_X12_8 dX12_doClaim_183 ?_
                    refine lv_iload_n hx hb dX12_doClaim_186 rfl (lv_at hl 5 rfl) ?_
                    refine lv_bipush (v := 22) hx hb dX12_doClaim_187 (by decide) ?_
                    refine lv_iadd hx hb dX12_doClaim_189 ?_
                    refine lv_topi (fun x_126 ex_126 => ?_)
                    refine lv_iload hx hb dX12_doClaim_190 (lv_at hl 1 rfl) ?_
                    refine lv_iadd hx hb dX12_doClaim_192 ?_
                    refine lv_topi (fun x_127 ex_127 => ?_)
                    refine lv_aload_n hx hb dX12_doClaim_193 rfl (lv_at hl 4 rfl) ?_
                    refine mg_0 C hs hP ha0 hk0 wf_X12_8 dX12_doClaim_194 ?_
                    refine lv_iload_n hx hb dX12_doClaim_197 rfl (lv_at hl 5 rfl) ?_
                    refine lv_bipush (v := 22) hx hb dX12_doClaim_198 (by decide) ?_
                    refine lv_iadd hx hb dX12_doClaim_200 ?_
                    refine lv_topi (fun x_128 ex_128 => ?_)
                    refine lv_iload hx hb dX12_doClaim_201 (lv_at hl 1 rfl) ?_
                    refine lv_iadd hx hb dX12_doClaim_203 ?_
                    refine lv_topi (fun x_129 ex_129 => ?_)
                    have hi_hr_130 : zEq x_129.toInt (x1.toInt + y_76.toInt + 22) := by
                      obtain ⟨f_128, l_128, u_128⟩ := z_add ex_128 rfl ti_22
                      try replace f_128 : x_128.toInt = x1.toInt + 22 := by omega
                      clear l_128 u_128
                      have g_131 := z_rng y_76
                      obtain ⟨f_129, l_129, u_129⟩ := z_add ex_129 rfl rfl
                      try replace f_129 : x_129.toInt = x_128.toInt + y_76.toInt := by omega
                      clear l_129 u_129
                      show x_129.toInt = (x1.toInt + y_76.toInt + 22)
                      omega
                    have hl_hr_130 : 22 ≤ y_76.toInt + 22 ∧ y_76.toInt + 22 ≤ 25 := by
                      have g_132 := z_rng y_76
                      omega
                    have hid_hr_130 : (x1.toInt + y_76.toInt + 22) = x1.toInt + (y_76.toInt + 22) := by simp only [Int.add_assoc, Int.add_sub_assoc]
                    have hr_130 := z_cell (lo := 22) (hi := 25) hp0 hi_hr_130 hid_hr_130 hl_hr_130 (by decide)
                    replace hid_hr_130 : zEq (x1.toInt + y_76.toInt + 22) (x1.toInt + (y_76.toInt + 22)) := hid_hr_130
                    have hin_133 : vp_in x_129 (zn K (zr K a0 0)) := vp_in_iff.mpr (by rw [(hf_23.2.2 (by decide))]; exact hr_130.in)
                    refine mld_40 C hs hP hf_23.1 hf_23.2.1 hin_133 dX12_doClaim_204 ?_
                    have ep_134 : x_129.toNatClampNeg = (x1.toInt + y_76.toInt + 22).toNat := z_posE hi_hr_130
                    rw [ep_134]
                    refine lv_iconst (v := 0) hx hb dX12_doClaim_205 (by decide) ?_
                    refine zcS (zrS (As := [.int (A_87 40 (x1.toInt + y_76.toInt + 22).toNat), .int 0]) (rest := [.int x_127, .ref (zr K a0 0)]) C hs hP hS (c_X12_least l D K hM f A_87 hT (A_87 40 (x1.toInt + y_76.toInt + 22).toNat) 0) m_X12_least wm_X12_250 ⟨by decide, by decide⟩ hl.1 (Nat.le_of_ble_eq_true rfl) dX12_doClaim_206) (fun x_135 p_135 => ?_)
                    have pp_135 : x_135.toInt ≤ (A_87 40 (x1.toInt + y_76.toInt + 22).toNat).toInt ∧ x_135.toInt ≤ (0 : Int32).toInt ∧ (x_135.toInt = (A_87 40 (x1.toInt + y_76.toInt + 22).toNat).toInt ∨ x_135.toInt = (0 : Int32).toInt) := p_135
                    try simp only [ti_0] at pp_135
                    have g_136 := z_rng (A_87 40 (x1.toInt + y_76.toInt + 22).toNat)
                    have hi_hr_137 : zEq x_127.toInt (x1.toInt + y_76.toInt + 22) := by
                      obtain ⟨f_126, l_126, u_126⟩ := z_add ex_126 rfl ti_22
                      try replace f_126 : x_126.toInt = x1.toInt + 22 := by omega
                      clear l_126 u_126
                      have g_138 := z_rng y_76
                      obtain ⟨f_127, l_127, u_127⟩ := z_add ex_127 rfl rfl
                      try replace f_127 : x_127.toInt = x_126.toInt + y_76.toInt := by omega
                      clear l_127 u_127
                      show x_127.toInt = (x1.toInt + y_76.toInt + 22)
                      omega
                    have hl_hr_137 : 22 ≤ y_76.toInt + 22 ∧ y_76.toInt + 22 ≤ 25 := by
                      have g_139 := z_rng y_76
                      omega
                    have hid_hr_137 : (x1.toInt + y_76.toInt + 22) = x1.toInt + (y_76.toInt + 22) := by simp only [Int.add_assoc, Int.add_sub_assoc]
                    have hr_137 := z_cell (lo := 22) (hi := 25) hp0 hi_hr_137 hid_hr_137 hl_hr_137 (by decide)
                    replace hid_hr_137 : zEq (x1.toInt + y_76.toInt + 22) (x1.toInt + (y_76.toInt + 22)) := hid_hr_137
                    have hin_140 : vp_in x_127 (zn K (zr K a0 0)) := vp_in_iff.mpr (by rw [(hf_23.2.2 (by decide))]; exact hr_137.in)
                    have g_142 := z_rng x_135
                    refine mst_40 C hM hs hP hS hf_23.1 hT hf_23.2.1 hin_140 (tp_22 hr_137 (show -1 ≤ x_135.toInt ∧ x_135.toInt ≤ 60 from by omega)) dX12_doClaim_209 (fun A_141 H locs hE_141 hT hP hS => ?_)
                    have ep_143 : x_127.toNatClampNeg = (x1.toInt + y_76.toInt + 22).toNat := z_posE hi_hr_137
                    rw [ep_143] at hE_141
                    have FA := frA FA (frAu hE_141) (by decide)
                    have FC := fC.tr FC (fC.st (b := x1.toInt) (lo := 22) (hi := 25) hE_141 hb0.1 (by decide) hid_hr_137 hl_hr_137) (by decide)
                    have WZ := wz.st WZ hE_141 (Or.inr (by omega))
                    obtain ⟨x_144, ex_144⟩ : ∃ y : Int32, y = y_76 + 1 := ⟨_, rfl⟩
                    refine lv_iinc (v := x_144) (lv' := [(7, .int x_144), (8, .int y_85), (6, .int x_22), (5, .int y_2), (0, .ref a0), (1, .int x1), (2, .int x2), (3, .int x3), (4, .int x4)]) hx hb dX12_doClaim_210 hl (k := 1) rfl (by rw [ex_144]; rfl) (by decide) rfl (fun ls hl => ?_)
                    refine lv_goto (tgt := 117) hx hb dX12_doClaim_213 (by decide) ?_
                    have g_145 := z_rng y_76
                    obtain ⟨f_144, l_144, u_144⟩ := z_add ex_144 rfl ti_1
                    try replace f_144 : x_144.toInt = y_76.toInt + 1 := by omega
                    clear l_144 u_144
                    have g_146 := z_rng y_85
                    have fq_147 : fC (A 40) (A_141 40) x1.toInt ([(15, 18), (22, 25), (110, 169)] : List (Int × Int)) := fun j hj hh => by
                      have h9 := hh
                      simp only [List.mem_cons, List.not_mem_nil, or_false, forall_eq_or_imp, forall_eq] at h9
                      rw [hE_141, va_up_self, pk_un (show j.toNat ≠ (x1.toInt + y_76.toInt + 22).toNat by omega)]
                      exact iv_87_1 j hj hh
                    have hq_148 : ∀ q9 : Int, 0 ≤ q9 → q9 ≤ 3 → (A_141 40 (x1.toInt + q9 + 22).toNat).toInt ≤ (A 40 (x1.toInt + q9 + 22).toNat).toInt := fun q9 h1 h2 => by
                      have h8 := iv_87_2 q9 h1 h2
                      by_cases h9 : q9 = y_76.toInt
                      · subst h9; rw [hE_141, va_up_self, pk_us]; omega
                      · rw [hE_141, va_up_self, pk_un (by omega)]; exact h8
                    exact ih_77 A_141 _ _ x_144 _ (by omega) (by omega) fq_147 hq_148 FA FC WZ hT hP hS (lv_sub hl [0, 2, 3, 4, 5, 6, 7, 8] rfl)
                  · skip
                    refine lv_aload_n hx hb dX12_doClaim_143 rfl (lv_at hl 4 rfl) ?_
                    refine mg_0 C hs hP ha0 hk0 wf_X12_8 dX12_doClaim_144 ?_
                    refine lv_iload_n hx hb dX12_doClaim_147 rfl (lv_at hl 5 rfl) ?_
                    refine lv_bipush (v := 110) hx hb dX12_doClaim_148 (by decide) ?_
                    refine lv_iadd hx hb dX12_doClaim_150 ?_
                    refine lv_topi (fun x_149 ex_149 => ?_)
                    refine lv_aload_n hx hb dX12_doClaim_151 rfl (lv_at hl 4 rfl) ?_
                    refine mg_0 C hs hP ha0 hk0 wf_X12_8 dX12_doClaim_152 ?_
                    refine lv_iload_n hx hb dX12_doClaim_155 rfl (lv_at hl 5 rfl) ?_
                    refine lv_sipush (v := 230) hx hb dX12_doClaim_156 (by decide) ?_
                    refine lv_iadd hx hb dX12_doClaim_159 ?_
                    refine lv_topi (fun x_150 ex_150 => ?_)
                    refine lv_bipush (v := 60) hx hb dX12_doClaim_160 (by decide) ?_
                    refine lv_iload hx hb dX12_doClaim_162 (lv_at hl 1 rfl) ?_
                    refine lv_imul hx hb dX12_doClaim_164 ?_
                    refine lv_topi (fun x_151 ex_151 => ?_)
                    refine lv_iadd hx hb dX12_doClaim_165 ?_
                    refine lv_topi (fun x_152 ex_152 => ?_)
                    refine lv_iload hx hb dX12_doClaim_166 (lv_at hl 0 rfl) ?_
                    refine lv_iadd hx hb dX12_doClaim_168 ?_
                    refine lv_topi (fun x_153 ex_153 => ?_)
                    have hi_hr_154 : zEq x_153.toInt (x1.toInt + 60 * y_76.toInt + y_85.toInt + 230) := by
                      obtain ⟨f_150, l_150, u_150⟩ := z_add ex_150 rfl ti_230
                      try replace f_150 : x_150.toInt = x1.toInt + 230 := by omega
                      clear l_150 u_150
                      have g_155 := z_rng y_76
                      obtain ⟨f_151, l_151, u_151⟩ := z_mul ex_151 ti_60 rfl
                      try replace f_151 : x_151.toInt = 60 * y_76.toInt := by omega
                      clear l_151 u_151
                      obtain ⟨f_152, l_152, u_152⟩ := z_add ex_152 rfl rfl
                      try replace f_152 : x_152.toInt = x_150.toInt + x_151.toInt := by omega
                      clear l_152 u_152
                      have g_156 := z_rng y_85
                      obtain ⟨f_153, l_153, u_153⟩ := z_add ex_153 rfl rfl
                      try replace f_153 : x_153.toInt = x_152.toInt + y_85.toInt := by omega
                      clear l_153 u_153
                      show x_153.toInt = (x1.toInt + 60 * y_76.toInt + y_85.toInt + 230)
                      omega
                    have hl_hr_154 : 230 ≤ 60 * y_76.toInt + y_85.toInt + 230 ∧ 60 * y_76.toInt + y_85.toInt + 230 ≤ 469 := by
                      have g_157 := z_rng y_76
                      have g_158 := z_rng y_85
                      omega
                    have hid_hr_154 : (x1.toInt + 60 * y_76.toInt + y_85.toInt + 230) = x1.toInt + (60 * y_76.toInt + y_85.toInt + 230) := by simp only [Int.add_assoc, Int.add_sub_assoc]
                    have hr_154 := z_cell (lo := 170) (hi := 469) hp0 hi_hr_154 hid_hr_154 hl_hr_154 (by decide)
                    replace hid_hr_154 : zEq (x1.toInt + 60 * y_76.toInt + y_85.toInt + 230) (x1.toInt + (60 * y_76.toInt + y_85.toInt + 230)) := hid_hr_154
                    have hin_159 : vp_in x_153 (zn K (zr K a0 0)) := vp_in_iff.mpr (by rw [(hf_23.2.2 (by decide))]; exact hr_154.in)
                    refine mld_40 C hs hP hf_23.1 hf_23.2.1 hin_159 dX12_doClaim_169 ?_
                    have ep_160 : x_153.toNatClampNeg = (x1.toInt + 60 * y_76.toInt + y_85.toInt + 230).toNat := z_posE hi_hr_154
                    rw [ep_160]
                    obtain ⟨f_150, l_150, u_150⟩ := z_add ex_150 rfl ti_230
                    try replace f_150 : x_150.toInt = x1.toInt + 230 := by omega
                    clear l_150 u_150
                    have g_162 := z_rng y_76
                    obtain ⟨f_151, l_151, u_151⟩ := z_mul ex_151 ti_60 rfl
                    try replace f_151 : x_151.toInt = 60 * y_76.toInt := by omega
                    clear l_151 u_151
                    obtain ⟨f_152, l_152, u_152⟩ := z_add ex_152 rfl rfl
                    try replace f_152 : x_152.toInt = x_150.toInt + x_151.toInt := by omega
                    clear l_152 u_152
                    have g_163 := z_rng y_85
                    obtain ⟨f_153, l_153, u_153⟩ := z_add ex_153 rfl rfl
                    try replace f_153 : x_153.toInt = x_152.toInt + y_85.toInt := by omega
                    clear l_153 u_153
                    have hc_161 := FC_87 (x1.toInt + 60 * y_76.toInt + y_85.toInt + 230) (by omega) (by simp only [List.mem_cons, List.not_mem_nil, or_false, forall_eq_or_imp, forall_eq]; omega)
                    have ev_164 : A_87 40 (x1.toInt + 60 * y_76.toInt + y_85.toInt + 230).toNat = A 40 (x1.toInt + 60 * y_76.toInt + y_85.toInt + 230).toNat := by rw [hc_161]
                    have tv_165 := rv_170 hT hr_154
                    rw [ep_160] at tv_165
                    rw [ev_164] at tv_165
                    rw [ev_164]
                    refine lv_iadd hx hb dX12_doClaim_170 ?_
                    refine lv_topi (fun x_166 ex_166 => ?_)
                    refine lv_bipush (v := 6) hx hb dX12_doClaim_171 (by decide) ?_
                    refine lv_iload_n hx hb dX12_doClaim_173 rfl (lv_at hl 7 rfl) ?_
                    refine lv_iadd hx hb dX12_doClaim_174 ?_
                    refine lv_topi (fun x_167 ex_167 => ?_)
                    have hi_hr_168 : zEq x_166.toInt (x1.toInt + (A 40 (x1.toInt + 60 * y_76.toInt + y_85.toInt + 230).toNat).toInt + 110) := by
                      obtain ⟨f_149, l_149, u_149⟩ := z_add ex_149 rfl ti_110
                      try replace f_149 : x_149.toInt = x1.toInt + 110 := by omega
                      clear l_149 u_149
                      have g_169 := z_rng (A 40 (x1.toInt + 60 * y_76.toInt + y_85.toInt + 230).toNat)
                      obtain ⟨f_166, l_166, u_166⟩ := z_add ex_166 rfl rfl
                      try replace f_166 : x_166.toInt = x_149.toInt + (A 40 (x1.toInt + 60 * y_76.toInt + y_85.toInt + 230).toNat).toInt := by omega
                      clear l_166 u_166
                      show x_166.toInt = (x1.toInt + (A 40 (x1.toInt + 60 * y_76.toInt + y_85.toInt + 230).toNat).toInt + 110)
                      omega
                    have hl_hr_168 : 110 ≤ (A 40 (x1.toInt + 60 * y_76.toInt + y_85.toInt + 230).toNat).toInt + 110 ∧ (A 40 (x1.toInt + 60 * y_76.toInt + y_85.toInt + 230).toNat).toInt + 110 ≤ 169 := by
                      have g_170 := z_rng (A 40 (x1.toInt + 60 * y_76.toInt + y_85.toInt + 230).toNat)
                      omega
                    have hid_hr_168 : (x1.toInt + (A 40 (x1.toInt + 60 * y_76.toInt + y_85.toInt + 230).toNat).toInt + 110) = x1.toInt + ((A 40 (x1.toInt + 60 * y_76.toInt + y_85.toInt + 230).toNat).toInt + 110) := by simp only [Int.add_assoc, Int.add_sub_assoc]
                    have hr_168 := z_cell (lo := 45) (hi := 169) hp0 hi_hr_168 hid_hr_168 hl_hr_168 (by decide)
                    replace hid_hr_168 : zEq (x1.toInt + (A 40 (x1.toInt + 60 * y_76.toInt + y_85.toInt + 230).toNat).toInt + 110) (x1.toInt + ((A 40 (x1.toInt + 60 * y_76.toInt + y_85.toInt + 230).toNat).toInt + 110)) := hid_hr_168
                    have hin_171 : vp_in x_166 (zn K (zr K a0 0)) := vp_in_iff.mpr (by rw [(hf_23.2.2 (by decide))]; exact hr_168.in)
                    refine mst_40 C hM hs hP hS hf_23.1 hT hf_23.2.1 hin_171 (tp_45 hr_168) dX12_doClaim_175 (fun A_172 H locs hE_172 hT hP hS => ?_)
                    have ep_173 : x_166.toNatClampNeg = (x1.toInt + (A 40 (x1.toInt + 60 * y_76.toInt + y_85.toInt + 230).toNat).toInt + 110).toNat := z_posE hi_hr_168
                    rw [ep_173] at hE_172
                    have FA := frA FA (frAu hE_172) (by decide)
                    have FC := fC.tr FC (fC.st (b := x1.toInt) (lo := 110) (hi := 169) hE_172 hb0.1 (by decide) hid_hr_168 hl_hr_168) (by decide)
                    obtain ⟨f_167, l_167, u_167⟩ := z_add ex_167 ti_6 rfl
                    try replace f_167 : x_167.toInt = 6 + x3.toInt := by omega
                    clear l_167 u_167
                    have WZ := wz.st WZ hE_172 (Or.inl (by omega))
                    obtain ⟨x_174, ex_174⟩ : ∃ y : Int32, y = y_85 + 1 := ⟨_, rfl⟩
                    refine lv_iinc (v := x_174) (lv' := [(8, .int x_174), (7, .int y_76), (6, .int x_22), (5, .int y_2), (0, .ref a0), (1, .int x1), (2, .int x2), (3, .int x3), (4, .int x4)]) hx hb dX12_doClaim_176 hl (k := 0) rfl (by rw [ex_174]; rfl) (by decide) rfl (fun ls hl => ?_)
                    refine lv_goto (tgt := 126) hx hb dX12_doClaim_179 (by decide) ?_
                    obtain ⟨f_174, l_174, u_174⟩ := z_add ex_174 rfl ti_1
                    try replace f_174 : x_174.toInt = y_85.toInt + 1 := by omega
                    clear l_174 u_174
                    have g_175 := z_rng (A_87 40 (x1.toInt + y_76.toInt + 22).toNat)
                    have fq_176 : fC (A 40) (A_172 40) x1.toInt ([(15, 18), (22, 25), (110, 169)] : List (Int × Int)) := fun j hj hh => by
                      have h9 := hh
                      simp only [List.mem_cons, List.not_mem_nil, or_false, forall_eq_or_imp, forall_eq] at h9
                      rw [hE_172, va_up_self, pk_un (show j.toNat ≠ (x1.toInt + (A 40 (x1.toInt + 60 * y_76.toInt + y_85.toInt + 230).toNat).toInt + 110).toNat by omega)]
                      exact iv_87_1 j hj hh
                    have rq_177 : ∀ j : Int, x1.toInt + 22 ≤ j → j ≤ x1.toInt + 25 → A_172 40 j.toNat = A_87 40 j.toNat := fun j h1 h2 => by rw [hE_172, va_up_self, pk_un (show j.toNat ≠ (x1.toInt + (A 40 (x1.toInt + 60 * y_76.toInt + y_85.toInt + 230).toNat).toInt + 110).toNat by omega)]
                    exact ih_86 A_172 _ _ x_174 _ (by omega) (by omega) fq_176 (fun q9 h1 h2 => by rw [rq_177 (x1.toInt + q9 + 22) (by omega) (by omega)]; exact iv_87_2 q9 h1 h2) FA FC WZ hT hP hS (lv_sub hl [0, 1, 2, 3, 4, 5, 6, 7, 8] rfl)
              have g_178 := z_rng y_76
              exact L_126_86 _ A_78 _ _ 0 _ (Nat.lt_succ_self _) (by (try simp only [ti_0]); omega) iv_78_1 iv_78_2 FA FC WZ hT hP hS (lv_sub hl [0, 1, 2, 3, 4, 5, 6, 7, 8] rfl)
        have g_179 := z_rng y_1
        have fq_180 : fC (A 40) (A_74 40) x1.toInt ([(15, 18), (22, 25), (110, 169)] : List (Int × Int)) := fun j hj hh => by
          have h9 := hh
          simp only [List.mem_cons, List.not_mem_nil, or_false, forall_eq_or_imp, forall_eq] at h9
          rw [hE_74, va_up_self, pk_un (show j.toNat ≠ (x1.toInt + -1 * x3.toInt + 18).toNat by omega)]
          rw [hE_62, va_up_self, pk_un (show j.toNat ≠ (x1.toInt + -1 * x3.toInt + 16).toNat by omega)]
          rw [hE_52, va_up_self, pk_un (show j.toNat ≠ (x1.toInt + x3.toInt + 17).toNat by omega)]
          rw [hE_35, va_up_self, pk_un (show j.toNat ≠ (x1.toInt + x3.toInt + 15).toNat by omega)]
        have rq_181 : ∀ j : Int, x1.toInt + 22 ≤ j → j ≤ x1.toInt + 25 → A_74 40 j.toNat = A 40 j.toNat := fun j h1 h2 => by rw [hE_74, va_up_self, pk_un (show j.toNat ≠ (x1.toInt + -1 * x3.toInt + 18).toNat by omega), hE_62, va_up_self, pk_un (show j.toNat ≠ (x1.toInt + -1 * x3.toInt + 16).toNat by omega), hE_52, va_up_self, pk_un (show j.toNat ≠ (x1.toInt + x3.toInt + 17).toNat by omega), hE_35, va_up_self, pk_un (show j.toNat ≠ (x1.toInt + x3.toInt + 15).toNat by omega)]
        exact L_117_77 _ A_74 _ _ 0 _ (Nat.lt_succ_self _) (by (try simp only [ti_0]); omega) fq_180 (fun q9 h1 h2 => by rw [rq_181 (x1.toInt + q9 + 22) (by omega) (by omega)]; exact Int.le_refl _) FA FC WZ hT hP hS (lv_sub hl [0, 1, 2, 3, 4, 5, 6, 7] rfl)
      · skip
        refine lv_iload hx hb dX12_doClaim_12 (lv_at hl 1 rfl) ?_
        refine lv_aload_n hx hb dX12_doClaim_14 rfl (lv_at hl 2 rfl) ?_
        refine mg_0 C hs hP ha0 hk0 wf_X12_8 dX12_doClaim_15 ?_
        have hf_182 := hO.r (j := 0) ha0 hk0 (rfl : zX 11 0 = some (40, 47730))
        refine lv_iload_n hx hb dX12_doClaim_18 rfl (lv_at hl 3 rfl) ?_
        refine lv_bipush (v := 22) hx hb dX12_doClaim_19 (by decide) ?_
        refine lv_iadd hx hb dX12_doClaim_21 ?_
        refine lv_topi (fun x_183 ex_183 => ?_)
        refine lv_iload hx hb dX12_doClaim_22 (lv_at hl 0 rfl) ?_
        refine lv_iadd hx hb dX12_doClaim_24 ?_
        refine lv_topi (fun x_184 ex_184 => ?_)
        have hi_hr_185 : zEq x_184.toInt (x1.toInt + y_1.toInt + 22) := by
          have g_186 := z_rng x1
          obtain ⟨f_183, l_183, u_183⟩ := z_add ex_183 rfl ti_22
          try replace f_183 : x_183.toInt = x1.toInt + 22 := by omega
          clear l_183 u_183
          have g_187 := z_rng y_1
          obtain ⟨f_184, l_184, u_184⟩ := z_add ex_184 rfl rfl
          try replace f_184 : x_184.toInt = x_183.toInt + y_1.toInt := by omega
          clear l_184 u_184
          show x_184.toInt = (x1.toInt + y_1.toInt + 22)
          omega
        have hl_hr_185 : 22 ≤ y_1.toInt + 22 ∧ y_1.toInt + 22 ≤ 25 := by
          have g_188 := z_rng x1
          have g_189 := z_rng y_1
          omega
        have hid_hr_185 : (x1.toInt + y_1.toInt + 22) = x1.toInt + (y_1.toInt + 22) := by simp only [Int.add_assoc, Int.add_sub_assoc]
        have hr_185 := z_cell (lo := 22) (hi := 25) hp0 hi_hr_185 hid_hr_185 hl_hr_185 (by decide)
        replace hid_hr_185 : zEq (x1.toInt + y_1.toInt + 22) (x1.toInt + (y_1.toInt + 22)) := hid_hr_185
        have hin_190 : vp_in x_184 (zn K (zr K a0 0)) := vp_in_iff.mpr (by rw [(hf_182.2.2 (by decide))]; exact hr_185.in)
        refine mld_40 C hs hP hf_182.1 hf_182.2.1 hin_190 dX12_doClaim_25 ?_
        have ep_191 : x_184.toNatClampNeg = (x1.toInt + y_1.toInt + 22).toNat := z_posE hi_hr_185
        rw [ep_191]
        have tv_192 := rv_22 hT hr_185
        rw [ep_191] at tv_192
        refine zcS (zrS (As := [.int y_2, .int (A 40 (x1.toInt + y_1.toInt + 22).toNat)]) (rest := []) C hs hP hS (c_X12_most l D K hM f A hT y_2 (A 40 (x1.toInt + y_1.toInt + 22).toNat)) m_X12_most wm_X12_247 ⟨by decide, by decide⟩ hl.1 (Nat.le_of_ble_eq_true rfl) dX12_doClaim_26) (fun x_193 p_193 => ?_)
        have pp_193 : y_2.toInt ≤ x_193.toInt ∧ (A 40 (x1.toInt + y_1.toInt + 22).toNat).toInt ≤ x_193.toInt ∧ (x_193.toInt = y_2.toInt ∨ x_193.toInt = (A 40 (x1.toInt + y_1.toInt + 22).toNat).toInt) := p_193
        have g_194 := z_rng y_2
        have g_195 := z_rng (A 40 (x1.toInt + y_1.toInt + 22).toNat)
        refine lv_istore (lv' := [(5, .int x_193), (6, .int y_1), (0, .ref a0), (1, .int x1), (2, .int x2), (3, .int x3), (4, .int x4)]) hx hb dX12_doClaim_29 hl (by decide) rfl (fun ls hl => ?_)
        obtain ⟨x_196, ex_196⟩ : ∃ y : Int32, y = y_1 + 1 := ⟨_, rfl⟩
        refine lv_iinc (v := x_196) (lv' := [(6, .int x_196), (5, .int x_193), (0, .ref a0), (1, .int x1), (2, .int x2), (3, .int x3), (4, .int x4)]) hx hb dX12_doClaim_31 hl (k := 1) rfl (by rw [ex_196]; rfl) (by decide) rfl (fun ls hl => ?_)
        refine lv_goto (tgt := 6) hx hb dX12_doClaim_34 (by decide) ?_
        have g_197 := z_rng y_1
        obtain ⟨f_196, l_196, u_196⟩ := z_add ex_196 rfl ti_1
        try replace f_196 : x_196.toInt = y_1.toInt + 1 := by omega
        clear l_196 u_196
        exact ih_3 x_196 x_193 _ (by omega) (by omega) (lv_sub hl [0, 1, 2, 3, 4, 5, 6] rfl)
  exact L_6_3 _ 0 0 _ (Nat.lt_succ_self _) (by (try simp only [ti_0]); omega) (lv_sub hl [0, 1, 2, 3, 4, 5, 6] rfl)
