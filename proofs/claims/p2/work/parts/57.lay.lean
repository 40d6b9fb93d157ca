set_option maxHeartbeats 4000000 in
set_option maxRecDepth 100000 in
theorem c_X12_doLay (l : Launch) (D : va_G) (K : zK) (hM : mK K) (f : Nat → Int32) (A : Nat → Nat → Int32) (hT : mT f A) (a0 : Nat) (ha0 : a0 ∈ zl K) (hk0 : zk K a0 = 11) (x1 : Int32) (x2 : Int32) (x3 : Int32) (x4 : Int32) (hp0 : zRow x1.toInt) (hp1 : 0 ≤ x3.toInt ∧ x3.toInt ≤ 3) (hp2 : 0 ≤ x4.toInt ∧ x4.toInt < (A 40 (x1.toInt + x3.toInt + 22).toNat).toInt) (hp3 : rowP (A 40) x1.toInt) (hp4 : nL (A 40) x1.toInt x3.toInt (A 40 (x1.toInt + 26).toNat).toInt) (hp5 : (f 11).toInt ≤ 1950000000) (hp6 : (f 9).toInt ≤ 1950000000) : Met l yX12_doLay (zc yX12_doLay cX12_doLay 7 none) (rmd 5) (va_Pc [.ref a0, .int x1, .int x2, .int x3, .int x4] (zB D K (mV K f A))) (mQv D K (fun f' A' => mT f' A' ∧ (∀ k, k ∉ ([40, 48, 50, 53, 55] : List Nat) → A' k = A k) ∧ (∀ k, k ∉ ([9, 11, 14, 16] : List Nat) → f' k = f k) ∧ fC (A 40) (A' 40) x1.toInt ([(5, 5), (9, 9), (14, 14), (15, 18), (19, 19), (20, 20), (22, 25), (26, 26), (27, 30), (31, 34), (39, 42), (43, 43), (110, 169), (230, 469), (470, 529), (530, 589), (590, 649), (650, 709), (710, 769), (770, 829), (830, 889)] : List (Int × Int)) ∧ wz (A 40) (A' 40) x1.toInt ∧ (f 9).toInt ≤ (f' 9).toInt ∧ (f' 9).toInt ≤ (f 9).toInt + 2 ∧ (f 11).toInt ≤ (f' 11).toInt ∧ (f' 11).toInt ≤ (f 11).toInt + 13 ∧ ((f 12).toInt ≠ 0 → (f' 11).toInt = (f 11).toInt) ∧ rowN (A' 40) x1.toInt)) 0 0 (zA K) := by
  refine zin (by decide) (Nat.le_of_ble_eq_true rfl) ?_
  intro p e s m args below meth c ls Q hQ C hr hlk hP hs hl
  have C : CallFix p m c cX12_doLay 7 s args zw RX12 := C
  obtain ⟨hx, hb, hml, hown, hts⟩ := id C
  have hO := hM.1
  have hS : va_S (zA K) s.heap s.heap [] := va_S.rf
  have FA : ∀ k, k ∉ ([40, 48, 50, 53, 55] : List Nat) → A k = A k := fun _ _ => rfl
  have FF : ∀ k, k ∉ ([9, 11, 14, 16] : List Nat) → f k = f k := fun _ _ => rfl
  have FC : fC (A 40) (A 40) x1.toInt ([(5, 5), (9, 9), (14, 14), (15, 18), (19, 19), (20, 20), (22, 25), (26, 26), (27, 30), (31, 34), (39, 42), (43, 43), (110, 169), (230, 469), (470, 529), (530, 589), (590, 649), (650, 709), (710, 769), (770, 829), (830, 889)] : List (Int × Int)) := fun _ _ _ => rfl
  have WZ : wz (A 40) (A 40) x1.toInt := wz.rf
  have hl : lv_has ls 7 [(0, .ref a0), (1, .int x1), (2, .int x2), (3, .int x3), (4, .int x4)] := hl
  have hb0 := hp0.lin
  have tR0 := hT.row hp0
  have hSn := hS_nn (A 40) x1.toInt
  have t21 := tR0.p21
  have t26 := tR0.p26
  have t20 := tR0.p20
  have t43 := tR0.p43
  have hrs := hp3.1
  unfold rS at hrs
  have hSg := hS_ge (C := A 40) (b := x1.toInt) hp1
  have hmx := mx_le (hd (A 40) x1.toInt x3.toInt)
  have hhd : hd (A 40) x1.toInt x3.toInt = (A 40 (x1.toInt + x3.toInt + 22).toNat).toInt := rfl
  have h22 := tR0.p22 x3.toInt hp1.1 hp1.2
  have hly := dL.lt hp3.2.1 hp1 hp4 tR0.p31
  refine lv_aload_n hx hb dX12_doLay_0 rfl (lv_at hl 0 rfl) ?_
  refine mg_0 C hs hP ha0 hk0 wf_X12_8 dX12_doLay_1 ?_
  have hf_1 := hO.r (j := 0) ha0 hk0 (rfl : zX 11 0 = some (40, 47730))
  refine lv_iload_n hx hb dX12_doLay_4 rfl (lv_at hl 1 rfl) ?_
  refine lv_sipush (v := 230) hx hb dX12_doLay_5 (by decide) ?_
  refine lv_iadd hx hb dX12_doLay_8 ?_
  refine lv_topi (fun x_2 ex_2 => ?_)
  refine lv_bipush (v := 60) hx hb dX12_doLay_9 (by decide) ?_
  refine lv_iload_n hx hb dX12_doLay_11 rfl (lv_at hl 3 rfl) ?_
  refine lv_imul hx hb dX12_doLay_12 ?_
  refine lv_topi (fun x_3 ex_3 => ?_)
  refine lv_iadd hx hb dX12_doLay_13 ?_
  refine lv_topi (fun x_4 ex_4 => ?_)
  refine lv_iload hx hb dX12_doLay_14 (lv_at hl 4 rfl) ?_
  refine lv_iadd hx hb dX12_doLay_16 ?_
  refine lv_topi (fun x_5 ex_5 => ?_)
  have hi_hr_6 : zEq x_5.toInt (x1.toInt + 60 * x3.toInt + x4.toInt + 230) := by
    have g_7 := z_rng x1
    obtain ⟨f_2, l_2, u_2⟩ := z_add ex_2 rfl ti_230
    try replace f_2 : x_2.toInt = x1.toInt + 230 := by omega
    clear l_2 u_2
    have g_8 := z_rng x3
    obtain ⟨f_3, l_3, u_3⟩ := z_mul ex_3 ti_60 rfl
    try replace f_3 : x_3.toInt = 60 * x3.toInt := by omega
    clear l_3 u_3
    obtain ⟨f_4, l_4, u_4⟩ := z_add ex_4 rfl rfl
    try replace f_4 : x_4.toInt = x_2.toInt + x_3.toInt := by omega
    clear l_4 u_4
    have g_9 := z_rng x4
    obtain ⟨f_5, l_5, u_5⟩ := z_add ex_5 rfl rfl
    try replace f_5 : x_5.toInt = x_4.toInt + x4.toInt := by omega
    clear l_5 u_5
    show x_5.toInt = (x1.toInt + 60 * x3.toInt + x4.toInt + 230)
    omega
  have hl_hr_6 : 230 ≤ 60 * x3.toInt + x4.toInt + 230 ∧ 60 * x3.toInt + x4.toInt + 230 ≤ 469 := by
    have g_10 := z_rng x1
    have g_11 := z_rng x3
    have g_12 := z_rng x4
    omega
  have hid_hr_6 : (x1.toInt + 60 * x3.toInt + x4.toInt + 230) = x1.toInt + (60 * x3.toInt + x4.toInt + 230) := by simp only [Int.add_assoc, Int.add_sub_assoc]
  have hr_6 := z_cell (lo := 170) (hi := 469) hp0 hi_hr_6 hid_hr_6 hl_hr_6 (by decide)
  replace hid_hr_6 : zEq (x1.toInt + 60 * x3.toInt + x4.toInt + 230) (x1.toInt + (60 * x3.toInt + x4.toInt + 230)) := hid_hr_6
  have hin_13 : vp_in x_5 (zn K (zr K a0 0)) := vp_in_iff.mpr (by rw [(hf_1.2.2 (by decide))]; exact hr_6.in)
  refine mld_40 C hs hP hf_1.1 hf_1.2.1 hin_13 dX12_doLay_17 ?_
  have ep_14 : x_5.toNatClampNeg = (x1.toInt + 60 * x3.toInt + x4.toInt + 230).toNat := z_posE hi_hr_6
  rw [ep_14]
  have tv_15 := rv_170 hT hr_6
  rw [ep_14] at tv_15
  refine lv_istore (lv' := [(5, .int (A 40 (x1.toInt + 60 * x3.toInt + x4.toInt + 230).toNat)), (0, .ref a0), (1, .int x1), (2, .int x2), (3, .int x3), (4, .int x4)]) hx hb dX12_doLay_18 hl (by decide) rfl (fun ls hl => ?_)
  refine lv_aload_n hx hb dX12_doLay_20 rfl (lv_at hl 1 rfl) ?_
  refine mg_0 C hs hP ha0 hk0 wf_X12_8 dX12_doLay_21 ?_
  refine lv_iload_n hx hb dX12_doLay_24 rfl (lv_at hl 2 rfl) ?_
  refine lv_bipush (v := 22) hx hb dX12_doLay_25 (by decide) ?_
  refine lv_iadd hx hb dX12_doLay_27 ?_
  refine lv_topi (fun x_16 ex_16 => ?_)
  refine lv_iload_n hx hb dX12_doLay_28 rfl (lv_at hl 4 rfl) ?_
  refine lv_iadd hx hb dX12_doLay_29 ?_
  refine lv_topi (fun x_17 ex_17 => ?_)
  refine lv_dup2_11 hx hb dX12_doLay_30 rfl rfl ?_
  have hi_hr_18 : zEq x_17.toInt (x1.toInt + x3.toInt + 22) := by
    have g_19 := z_rng x1
    obtain ⟨f_16, l_16, u_16⟩ := z_add ex_16 rfl ti_22
    try replace f_16 : x_16.toInt = x1.toInt + 22 := by omega
    clear l_16 u_16
    have g_20 := z_rng x3
    obtain ⟨f_17, l_17, u_17⟩ := z_add ex_17 rfl rfl
    try replace f_17 : x_17.toInt = x_16.toInt + x3.toInt := by omega
    clear l_17 u_17
    show x_17.toInt = (x1.toInt + x3.toInt + 22)
    omega
  have hl_hr_18 : 22 ≤ x3.toInt + 22 ∧ x3.toInt + 22 ≤ 25 := by
    have g_21 := z_rng x1
    have g_22 := z_rng x3
    omega
  have hid_hr_18 : (x1.toInt + x3.toInt + 22) = x1.toInt + (x3.toInt + 22) := by simp only [Int.add_assoc, Int.add_sub_assoc]
  have hr_18 := z_cell (lo := 22) (hi := 25) hp0 hi_hr_18 hid_hr_18 hl_hr_18 (by decide)
  replace hid_hr_18 : zEq (x1.toInt + x3.toInt + 22) (x1.toInt + (x3.toInt + 22)) := hid_hr_18
  have hin_23 : vp_in x_17 (zn K (zr K a0 0)) := vp_in_iff.mpr (by rw [(hf_1.2.2 (by decide))]; exact hr_18.in)
  refine mld_40 C hs hP hf_1.1 hf_1.2.1 hin_23 dX12_doLay_31 ?_
  have ep_24 : x_17.toNatClampNeg = (x1.toInt + x3.toInt + 22).toNat := z_posE hi_hr_18
  rw [ep_24]
  have tv_25 := rv_22 hT hr_18
  rw [ep_24] at tv_25
  refine lv_iconst (v := 1) hx hb dX12_doLay_32 (by decide) ?_
  refine lv_isub hx hb dX12_doLay_33 ?_
  refine lv_topi (fun x_26 ex_26 => ?_)
  have hin_27 : vp_in x_17 (zn K (zr K a0 0)) := vp_in_iff.mpr (by rw [(hf_1.2.2 (by decide))]; exact hr_18.in)
  have g_29 := z_rng (A 40 (x1.toInt + x3.toInt + 22).toNat)
  obtain ⟨f_26, l_26, u_26⟩ := z_sub ex_26 rfl ti_1
  try replace f_26 : x_26.toInt = (A 40 (x1.toInt + x3.toInt + 22).toNat).toInt - 1 := by omega
  clear l_26 u_26
  refine mst_40 C hM hs hP hS hf_1.1 hT hf_1.2.1 hin_27 (tp_22 hr_18 (show -1 ≤ x_26.toInt ∧ x_26.toInt ≤ 60 from by omega)) dX12_doLay_34 (fun A_28 H locs hE_28 hT hP hS => ?_)
  have ep_30 : x_17.toNatClampNeg = (x1.toInt + x3.toInt + 22).toNat := z_posE hi_hr_18
  rw [ep_30] at hE_28
  have FA := frA FA (frAu hE_28) (by decide)
  have FC := fC.tr FC (fC.st (b := x1.toInt) (lo := 22) (hi := 25) hE_28 hb0.1 (by decide) hid_hr_18 hl_hr_18) (by decide)
  have WZ := wz.st WZ hE_28 (Or.inr (by omega))
  refine lv_iload hx hb dX12_doLay_35 (lv_at hl 5 rfl) ?_
  refine lv_istore (lv' := [(6, .int x4), (5, .int (A 40 (x1.toInt + 60 * x3.toInt + x4.toInt + 230).toNat)), (0, .ref a0), (1, .int x1), (2, .int x2), (3, .int x3), (4, .int x4)]) hx hb dX12_doLay_37 hl (by decide) rfl (fun ls hl => ?_)
  have L_39_32 : ∀ (n_32 : Nat) (A_33 : Nat → Nat → Int32) (H : Heap) (locs : List Loc) (y_31 : Int32) (ls : Array Slot), (2147483648 - y_31.toInt).toNat < n_32 → x4.toInt ≤ y_31.toInt → fC (A 40) (A_33 40) x1.toInt ([(22, 25), (230, 469)] : List (Int × Int)) → (A_33 40 (x1.toInt + x3.toInt + 22).toNat).toInt = (A 40 (x1.toInt + x3.toInt + 22).toNat).toInt - 1 → (∀ q : Int, 0 ≤ q → q ≤ 3 → q ≠ x3.toInt → A_33 40 (x1.toInt + q + 22).toNat = A 40 (x1.toInt + q + 22).toNat) → (∀ k, k ∉ ([40, 48, 50, 53, 55] : List Nat) → A_33 k = A k) → fC (A 40) (A_33 40) x1.toInt ([(5, 5), (9, 9), (14, 14), (15, 18), (19, 19), (20, 20), (22, 25), (26, 26), (27, 30), (31, 34), (39, 42), (43, 43), (110, 169), (230, 469), (470, 529), (530, 589), (590, 649), (650, 709), (710, 769), (770, 829), (830, 889)] : List (Int × Int)) → wz (A 40) (A_33 40) x1.toInt → mT f A_33 → va_P D vwCl (zW K (mV K f A_33)) H → va_S (zA K) s.heap H locs → lv_has ls 7 [(6, .int y_31), (5, .int (A 40 (x1.toInt + 60 * x3.toInt + x4.toInt + 230).toNat)), (0, .ref a0), (1, .int x1), (2, .int x2), (3, .int x3), (4, .int x4)] → W p l e (rmd 5) s m args below meth c H locs 0 0 Q (F0 m 39 ls []) := by
    intro n_32
    induction n_32 with
    | zero => intro A_33 H locs y_31 ls hm_32; exact absurd hm_32 (Nat.not_lt_zero _)
    | succ n_32 ih_32 =>
      intro A_33 H locs y_31 ls hm_32 iv_33_0 iv_33_1 iv_33_2 iv_33_3 FA_33 FC_33 WZ_33 hT hP hS hl
      have FA := FA_33
      have FC := FC_33
      have WZ := WZ_33
      have e20q := iv_33_1.ar hb0.1 (lo := 20) (hi := 20) (by decide) (x1.toInt + 20) (by decide) (by omega) (by omega)
      have e20i := congrArg Int32.toInt e20q
      have e21q := iv_33_1.ar hb0.1 (lo := 21) (hi := 21) (by decide) (x1.toInt + 21) (by decide) (by omega) (by omega)
      have e21i := congrArg Int32.toInt e21q
      have e26q := iv_33_1.ar hb0.1 (lo := 26) (hi := 26) (by decide) (x1.toInt + 26) (by decide) (by omega) (by omega)
      have e26i := congrArg Int32.toInt e26q
      have e43q := iv_33_1.ar hb0.1 (lo := 43) (hi := 43) (by decide) (x1.toInt + 43) (by decide) (by omega) (by omega)
      have e43i := congrArg Int32.toInt e43q
      refine lv_iload hx hb dX12_doLay_39 (lv_at hl 0 rfl) ?_
      refine lv_aload_n hx hb dX12_doLay_41 rfl (lv_at hl 2 rfl) ?_
      refine mg_0 C hs hP ha0 hk0 wf_X12_8 dX12_doLay_42 ?_
      refine lv_iload_n hx hb dX12_doLay_45 rfl (lv_at hl 3 rfl) ?_
      refine lv_bipush (v := 22) hx hb dX12_doLay_46 (by decide) ?_
      refine lv_iadd hx hb dX12_doLay_48 ?_
      refine lv_topi (fun x_35 ex_35 => ?_)
      refine lv_iload_n hx hb dX12_doLay_49 rfl (lv_at hl 5 rfl) ?_
      refine lv_iadd hx hb dX12_doLay_50 ?_
      refine lv_topi (fun x_36 ex_36 => ?_)
      have hi_hr_37 : zEq x_36.toInt (x1.toInt + x3.toInt + 22) := by
        have g_38 := z_rng x1
        obtain ⟨f_35, l_35, u_35⟩ := z_add ex_35 rfl ti_22
        try replace f_35 : x_35.toInt = x1.toInt + 22 := by omega
        clear l_35 u_35
        have g_39 := z_rng x3
        obtain ⟨f_36, l_36, u_36⟩ := z_add ex_36 rfl rfl
        try replace f_36 : x_36.toInt = x_35.toInt + x3.toInt := by omega
        clear l_36 u_36
        show x_36.toInt = (x1.toInt + x3.toInt + 22)
        omega
      have hl_hr_37 : 22 ≤ x3.toInt + 22 ∧ x3.toInt + 22 ≤ 25 := by
        have g_40 := z_rng x1
        have g_41 := z_rng x3
        omega
      have hid_hr_37 : (x1.toInt + x3.toInt + 22) = x1.toInt + (x3.toInt + 22) := by simp only [Int.add_assoc, Int.add_sub_assoc]
      have hr_37 := z_cell (lo := 22) (hi := 25) hp0 hi_hr_37 hid_hr_37 hl_hr_37 (by decide)
      replace hid_hr_37 : zEq (x1.toInt + x3.toInt + 22) (x1.toInt + (x3.toInt + 22)) := hid_hr_37
      have hin_42 : vp_in x_36 (zn K (zr K a0 0)) := vp_in_iff.mpr (by rw [(hf_1.2.2 (by decide))]; exact hr_37.in)
      refine mld_40 C hs hP hf_1.1 hf_1.2.1 hin_42 dX12_doLay_51 ?_
      have ep_43 : x_36.toNatClampNeg = (x1.toInt + x3.toInt + 22).toNat := z_posE hi_hr_37
      rw [ep_43]
      have tv_44 := rv_22 hT hr_37
      rw [ep_43] at tv_44
      refine bi_ge (tgt := 99) hx hb rfl rfl dX12_doLay_52 (by decide) (fun c_45 => ?_) (fun c_45 => ?_)
      · skip
        refine lv_aload_n hx hb dX12_doLay_99 rfl (lv_at hl 2 rfl) ?_
        refine mg_17 C hs hP ha0 hk0 wf_X12_198 dX12_doLay_100 ?_
        refine lv_iconst (v := 1) hx hb dX12_doLay_103 (by decide) ?_
        refine bi_ne (tgt := 208) hx hb rfl ti_1 dX12_doLay_104 (by decide) (fun c_79 => ?_) (fun c_79 => ?_)
        · skip
          refine lv_aload_n hx hb dX12_doLay_208 rfl (lv_at hl 2 rfl) ?_
          refine mg_0 C hs hP ha0 hk0 wf_X12_8 dX12_doLay_209 ?_
          refine lv_iload_n hx hb dX12_doLay_212 rfl (lv_at hl 3 rfl) ?_
          refine lv_bipush (v := 14) hx hb dX12_doLay_213 (by decide) ?_
          refine lv_iadd hx hb dX12_doLay_215 ?_
          refine lv_topi (fun x_80 ex_80 => ?_)
          refine lv_iconst (v := 1) hx hb dX12_doLay_216 (by decide) ?_
          have hi_hr_81 : zEq x_80.toInt (x1.toInt + 14) := by
            have g_82 := z_rng x1
            obtain ⟨f_80, l_80, u_80⟩ := z_add ex_80 rfl ti_14
            try replace f_80 : x_80.toInt = x1.toInt + 14 := by omega
            clear l_80 u_80
            show x_80.toInt = (x1.toInt + 14)
            omega
          have hl_hr_81 : (14 : Int) ≤ 14 ∧ 14 ≤ (14 : Int) := by decide
          have hid_hr_81 : (x1.toInt + 14) = x1.toInt + (14) := by simp only [Int.add_assoc, Int.add_sub_assoc]
          have hr_81 := z_cell (lo := 10) (hi := 19) hp0 hi_hr_81 hid_hr_81 hl_hr_81 (by decide)
          replace hid_hr_81 : zEq (x1.toInt + 14) (x1.toInt + (14)) := hid_hr_81
          have hin_83 : vp_in x_80 (zn K (zr K a0 0)) := vp_in_iff.mpr (by rw [(hf_1.2.2 (by decide))]; exact hr_81.in)
          refine mst_40 C hM hs hP hS hf_1.1 hT hf_1.2.1 hin_83 (tp_10 hr_81) dX12_doLay_217 (fun A_84 H locs hE_84 hT hP hS => ?_)
          have ep_85 : x_80.toNatClampNeg = (x1.toInt + 14).toNat := z_posE hi_hr_81
          rw [ep_85] at hE_84
          have FA := frA FA (frAu hE_84) (by decide)
          have FC := fC.tr FC (fC.st (b := x1.toInt) (lo := 14) (hi := 14) hE_84 hb0.1 (by decide) hid_hr_81 hl_hr_81) (by decide)
          have WZ := wz.st WZ hE_84 (Or.inr (by omega))
          refine lv_aload_n hx hb dX12_doLay_218 rfl (lv_at hl 2 rfl) ?_
          refine mg_0 C hs hP ha0 hk0 wf_X12_8 dX12_doLay_219 ?_
          refine lv_iload_n hx hb dX12_doLay_222 rfl (lv_at hl 3 rfl) ?_
          refine lv_bipush (v := 27) hx hb dX12_doLay_223 (by decide) ?_
          refine lv_iadd hx hb dX12_doLay_225 ?_
          refine lv_topi (fun x_86 ex_86 => ?_)
          refine lv_aload_n hx hb dX12_doLay_226 rfl (lv_at hl 2 rfl) ?_
          refine mg_0 C hs hP ha0 hk0 wf_X12_8 dX12_doLay_227 ?_
          refine lv_iload_n hx hb dX12_doLay_230 rfl (lv_at hl 3 rfl) ?_
          refine lv_bipush (v := 26) hx hb dX12_doLay_231 (by decide) ?_
          refine lv_iadd hx hb dX12_doLay_233 ?_
          refine lv_topi (fun x_87 ex_87 => ?_)
          have hi_hr_88 : zEq x_87.toInt (x1.toInt + 26) := by
            have g_89 := z_rng x1
            obtain ⟨f_87, l_87, u_87⟩ := z_add ex_87 rfl ti_26
            try replace f_87 : x_87.toInt = x1.toInt + 26 := by omega
            clear l_87 u_87
            show x_87.toInt = (x1.toInt + 26)
            omega
          have hl_hr_88 : (26 : Int) ≤ 26 ∧ 26 ≤ (26 : Int) := by decide
          have hid_hr_88 : (x1.toInt + 26) = x1.toInt + (26) := by simp only [Int.add_assoc, Int.add_sub_assoc]
          have hr_88 := z_cell (lo := 26) (hi := 26) hp0 hi_hr_88 hid_hr_88 hl_hr_88 (by decide)
          replace hid_hr_88 : zEq (x1.toInt + 26) (x1.toInt + (26)) := hid_hr_88
          have hin_90 : vp_in x_87 (zn K (zr K a0 0)) := vp_in_iff.mpr (by rw [(hf_1.2.2 (by decide))]; exact hr_88.in)
          refine mld_40 C hs hP hf_1.1 hf_1.2.1 hin_90 dX12_doLay_234 ?_
          have ep_91 : x_87.toNatClampNeg = (x1.toInt + 26).toNat := z_posE hi_hr_88
          rw [ep_91]
          have g_93 := z_rng x1
          obtain ⟨f_87, l_87, u_87⟩ := z_add ex_87 rfl ti_26
          try replace f_87 : x_87.toInt = x1.toInt + 26 := by omega
          clear l_87 u_87
          obtain ⟨f_80, l_80, u_80⟩ := z_add ex_80 rfl ti_14
          try replace f_80 : x_80.toInt = x1.toInt + 14 := by omega
          clear l_80 u_80
          have hn_92 : (x1.toInt + 26).toNat ≠ (x1.toInt + 14).toNat := by omega
          have ev_94 : A_84 40 (x1.toInt + 26).toNat = A_33 40 (x1.toInt + 26).toNat := by rw [hE_84, va_up_self, pk_un hn_92]
          have tv_95 := rv_26 hT hr_88
          rw [ep_91] at tv_95
          rw [ev_94] at tv_95
          rw [ev_94]
          refine lv_iadd hx hb dX12_doLay_235 ?_
          refine lv_topi (fun x_96 ex_96 => ?_)
          refine lv_iload hx hb dX12_doLay_236 (lv_at hl 1 rfl) ?_
          have hi_hr_97 : zEq x_96.toInt (x1.toInt + (A_33 40 (x1.toInt + 26).toNat).toInt + 27) := by
            obtain ⟨f_86, l_86, u_86⟩ := z_add ex_86 rfl ti_27
            try replace f_86 : x_86.toInt = x1.toInt + 27 := by omega
            clear l_86 u_86
            have g_98 := z_rng (A_33 40 (x1.toInt + 26).toNat)
            obtain ⟨f_96, l_96, u_96⟩ := z_add ex_96 rfl rfl
            try replace f_96 : x_96.toInt = x_86.toInt + (A_33 40 (x1.toInt + 26).toNat).toInt := by omega
            clear l_96 u_96
            show x_96.toInt = (x1.toInt + (A_33 40 (x1.toInt + 26).toNat).toInt + 27)
            omega
          have hl_hr_97 : 27 ≤ (A_33 40 (x1.toInt + 26).toNat).toInt + 27 ∧ (A_33 40 (x1.toInt + 26).toNat).toInt + 27 ≤ 30 := by
            have g_99 := z_rng (A_33 40 (x1.toInt + 26).toNat)
            omega
          have hid_hr_97 : (x1.toInt + (A_33 40 (x1.toInt + 26).toNat).toInt + 27) = x1.toInt + ((A_33 40 (x1.toInt + 26).toNat).toInt + 27) := by simp only [Int.add_assoc, Int.add_sub_assoc]
          have hr_97 := z_cell (lo := 27) (hi := 30) hp0 hi_hr_97 hid_hr_97 hl_hr_97 (by decide)
          replace hid_hr_97 : zEq (x1.toInt + (A_33 40 (x1.toInt + 26).toNat).toInt + 27) (x1.toInt + ((A_33 40 (x1.toInt + 26).toNat).toInt + 27)) := hid_hr_97
          have hin_100 : vp_in x_96 (zn K (zr K a0 0)) := vp_in_iff.mpr (by rw [(hf_1.2.2 (by decide))]; exact hr_97.in)
          have g_102 := z_rng (A 40 (x1.toInt + 60 * x3.toInt + x4.toInt + 230).toNat)
          refine mst_40 C hM hs hP hS hf_1.1 hT hf_1.2.1 hin_100 (tp_27 hr_97 (show 0 ≤ (A 40 (x1.toInt + 60 * x3.toInt + x4.toInt + 230).toNat).toInt ∧ (A 40 (x1.toInt + 60 * x3.toInt + x4.toInt + 230).toNat).toInt ≤ 59 from by omega)) dX12_doLay_238 (fun A_101 H locs hE_101 hT hP hS => ?_)
          have ep_103 : x_96.toNatClampNeg = (x1.toInt + (A_33 40 (x1.toInt + 26).toNat).toInt + 27).toNat := z_posE hi_hr_97
          rw [ep_103] at hE_101
          have FA := frA FA (frAu hE_101) (by decide)
          have FC := fC.tr FC (fC.st (b := x1.toInt) (lo := 27) (hi := 30) hE_101 hb0.1 (by decide) hid_hr_97 hl_hr_97) (by decide)
          have WZ := wz.st WZ hE_101 (Or.inr (by omega))
          refine lv_aload_n hx hb dX12_doLay_239 rfl (lv_at hl 2 rfl) ?_
          refine mg_0 C hs hP ha0 hk0 wf_X12_8 dX12_doLay_240 ?_
          refine lv_iload_n hx hb dX12_doLay_243 rfl (lv_at hl 3 rfl) ?_
          refine lv_bipush (v := 31) hx hb dX12_doLay_244 (by decide) ?_
          refine lv_iadd hx hb dX12_doLay_246 ?_
          refine lv_topi (fun x_104 ex_104 => ?_)
          refine lv_aload_n hx hb dX12_doLay_247 rfl (lv_at hl 2 rfl) ?_
          refine mg_0 C hs hP ha0 hk0 wf_X12_8 dX12_doLay_248 ?_
          refine lv_iload_n hx hb dX12_doLay_251 rfl (lv_at hl 3 rfl) ?_
          refine lv_bipush (v := 26) hx hb dX12_doLay_252 (by decide) ?_
          refine lv_iadd hx hb dX12_doLay_254 ?_
          refine lv_topi (fun x_105 ex_105 => ?_)
          have hi_hr_106 : zEq x_105.toInt (x1.toInt + 26) := by
            obtain ⟨f_105, l_105, u_105⟩ := z_add ex_105 rfl ti_26
            try replace f_105 : x_105.toInt = x1.toInt + 26 := by omega
            clear l_105 u_105
            show x_105.toInt = (x1.toInt + 26)
            omega
          have hl_hr_106 : (26 : Int) ≤ 26 ∧ 26 ≤ (26 : Int) := by decide
          have hid_hr_106 : (x1.toInt + 26) = x1.toInt + (26) := by simp only [Int.add_assoc, Int.add_sub_assoc]
          have hr_106 := z_cell (lo := 26) (hi := 26) hp0 hi_hr_106 hid_hr_106 hl_hr_106 (by decide)
          replace hid_hr_106 : zEq (x1.toInt + 26) (x1.toInt + (26)) := hid_hr_106
          have hin_107 : vp_in x_105 (zn K (zr K a0 0)) := vp_in_iff.mpr (by rw [(hf_1.2.2 (by decide))]; exact hr_106.in)
          refine mld_40 C hs hP hf_1.1 hf_1.2.1 hin_107 dX12_doLay_255 ?_
          have ep_108 : x_105.toNatClampNeg = (x1.toInt + 26).toNat := z_posE hi_hr_106
          rw [ep_108]
          obtain ⟨f_105, l_105, u_105⟩ := z_add ex_105 rfl ti_26
          try replace f_105 : x_105.toInt = x1.toInt + 26 := by omega
          clear l_105 u_105
          obtain ⟨f_86, l_86, u_86⟩ := z_add ex_86 rfl ti_27
          try replace f_86 : x_86.toInt = x1.toInt + 27 := by omega
          clear l_86 u_86
          have g_110 := z_rng (A_33 40 (x1.toInt + 26).toNat)
          obtain ⟨f_96, l_96, u_96⟩ := z_add ex_96 rfl rfl
          try replace f_96 : x_96.toInt = x_86.toInt + (A_33 40 (x1.toInt + 26).toNat).toInt := by omega
          clear l_96 u_96
          have hn_109 : (x1.toInt + 26).toNat ≠ (x1.toInt + (A_33 40 (x1.toInt + 26).toNat).toInt + 27).toNat := by omega
          have hn_111 : (x1.toInt + 26).toNat ≠ (x1.toInt + 14).toNat := by omega
          have ev_112 : A_101 40 (x1.toInt + 26).toNat = A_33 40 (x1.toInt + 26).toNat := by rw [hE_101, va_up_self, pk_un hn_109, hE_84, va_up_self, pk_un hn_111]
          rw [ev_112]
          refine lv_iadd hx hb dX12_doLay_256 ?_
          refine lv_topi (fun x_113 ex_113 => ?_)
          refine lv_iload_n hx hb dX12_doLay_257 rfl (lv_at hl 5 rfl) ?_
          have hi_hr_114 : zEq x_113.toInt (x1.toInt + (A_33 40 (x1.toInt + 26).toNat).toInt + 31) := by
            obtain ⟨f_104, l_104, u_104⟩ := z_add ex_104 rfl ti_31
            try replace f_104 : x_104.toInt = x1.toInt + 31 := by omega
            clear l_104 u_104
            obtain ⟨f_113, l_113, u_113⟩ := z_add ex_113 rfl rfl
            try replace f_113 : x_113.toInt = x_104.toInt + (A_33 40 (x1.toInt + 26).toNat).toInt := by omega
            clear l_113 u_113
            show x_113.toInt = (x1.toInt + (A_33 40 (x1.toInt + 26).toNat).toInt + 31)
            omega
          have hl_hr_114 : 31 ≤ (A_33 40 (x1.toInt + 26).toNat).toInt + 31 ∧ (A_33 40 (x1.toInt + 26).toNat).toInt + 31 ≤ 34 := by
            omega
          have hid_hr_114 : (x1.toInt + (A_33 40 (x1.toInt + 26).toNat).toInt + 31) = x1.toInt + ((A_33 40 (x1.toInt + 26).toNat).toInt + 31) := by simp only [Int.add_assoc, Int.add_sub_assoc]
          have hr_114 := z_cell (lo := 31) (hi := 34) hp0 hi_hr_114 hid_hr_114 hl_hr_114 (by decide)
          replace hid_hr_114 : zEq (x1.toInt + (A_33 40 (x1.toInt + 26).toNat).toInt + 31) (x1.toInt + ((A_33 40 (x1.toInt + 26).toNat).toInt + 31)) := hid_hr_114
          have hin_115 : vp_in x_113 (zn K (zr K a0 0)) := vp_in_iff.mpr (by rw [(hf_1.2.2 (by decide))]; exact hr_114.in)
          have g_117 := z_rng x3
          refine mst_40 C hM hs hP hS hf_1.1 hT hf_1.2.1 hin_115 (tp_31 hr_114 (show 0 ≤ x3.toInt ∧ x3.toInt ≤ 3 from by omega)) dX12_doLay_258 (fun A_116 H locs hE_116 hT hP hS => ?_)
          have ep_118 : x_113.toNatClampNeg = (x1.toInt + (A_33 40 (x1.toInt + 26).toNat).toInt + 31).toNat := z_posE hi_hr_114
          rw [ep_118] at hE_116
          have FA := frA FA (frAu hE_116) (by decide)
          have FC := fC.tr FC (fC.st (b := x1.toInt) (lo := 31) (hi := 34) hE_116 hb0.1 (by decide) hid_hr_114 hl_hr_114) (by decide)
          have WZ := wz.st WZ hE_116 (Or.inr (by omega))
          refine lv_aload_n hx hb dX12_doLay_259 rfl (lv_at hl 2 rfl) ?_
          refine mg_0 C hs hP ha0 hk0 wf_X12_8 dX12_doLay_260 ?_
          refine lv_iload_n hx hb dX12_doLay_263 rfl (lv_at hl 3 rfl) ?_
          refine lv_bipush (v := 26) hx hb dX12_doLay_264 (by decide) ?_
          refine lv_iadd hx hb dX12_doLay_266 ?_
          refine lv_topi (fun x_119 ex_119 => ?_)
          refine lv_dup2_11 hx hb dX12_doLay_267 rfl rfl ?_
          have hi_hr_120 : zEq x_119.toInt (x1.toInt + 26) := by
            obtain ⟨f_119, l_119, u_119⟩ := z_add ex_119 rfl ti_26
            try replace f_119 : x_119.toInt = x1.toInt + 26 := by omega
            clear l_119 u_119
            show x_119.toInt = (x1.toInt + 26)
            omega
          have hl_hr_120 : (26 : Int) ≤ 26 ∧ 26 ≤ (26 : Int) := by decide
          have hid_hr_120 : (x1.toInt + 26) = x1.toInt + (26) := by simp only [Int.add_assoc, Int.add_sub_assoc]
          have hr_120 := z_cell (lo := 26) (hi := 26) hp0 hi_hr_120 hid_hr_120 hl_hr_120 (by decide)
          replace hid_hr_120 : zEq (x1.toInt + 26) (x1.toInt + (26)) := hid_hr_120
          have hin_121 : vp_in x_119 (zn K (zr K a0 0)) := vp_in_iff.mpr (by rw [(hf_1.2.2 (by decide))]; exact hr_120.in)
          refine mld_40 C hs hP hf_1.1 hf_1.2.1 hin_121 dX12_doLay_268 ?_
          have ep_122 : x_119.toNatClampNeg = (x1.toInt + 26).toNat := z_posE hi_hr_120
          rw [ep_122]
          obtain ⟨f_119, l_119, u_119⟩ := z_add ex_119 rfl ti_26
          try replace f_119 : x_119.toInt = x1.toInt + 26 := by omega
          clear l_119 u_119
          obtain ⟨f_104, l_104, u_104⟩ := z_add ex_104 rfl ti_31
          try replace f_104 : x_104.toInt = x1.toInt + 31 := by omega
          clear l_104 u_104
          obtain ⟨f_113, l_113, u_113⟩ := z_add ex_113 rfl rfl
          try replace f_113 : x_113.toInt = x_104.toInt + (A_33 40 (x1.toInt + 26).toNat).toInt := by omega
          clear l_113 u_113
          have hn_123 : (x1.toInt + 26).toNat ≠ (x1.toInt + (A_33 40 (x1.toInt + 26).toNat).toInt + 31).toNat := by omega
          have hn_124 : (x1.toInt + 26).toNat ≠ (x1.toInt + (A_33 40 (x1.toInt + 26).toNat).toInt + 27).toNat := by omega
          have hn_125 : (x1.toInt + 26).toNat ≠ (x1.toInt + 14).toNat := by omega
          have ev_126 : A_116 40 (x1.toInt + 26).toNat = A_33 40 (x1.toInt + 26).toNat := by rw [hE_116, va_up_self, pk_un hn_123, hE_101, va_up_self, pk_un hn_124, hE_84, va_up_self, pk_un hn_125]
          rw [ev_126]
          refine lv_iconst (v := 1) hx hb dX12_doLay_269 (by decide) ?_
          refine lv_iadd hx hb dX12_doLay_270 ?_
          refine lv_topi (fun x_127 ex_127 => ?_)
          have hin_128 : vp_in x_119 (zn K (zr K a0 0)) := vp_in_iff.mpr (by rw [(hf_1.2.2 (by decide))]; exact hr_120.in)
          obtain ⟨f_127, l_127, u_127⟩ := z_add ex_127 rfl ti_1
          try replace f_127 : x_127.toInt = (A_33 40 (x1.toInt + 26).toNat).toInt + 1 := by omega
          clear l_127 u_127
          refine mst_40 C hM hs hP hS hf_1.1 hT hf_1.2.1 hin_128 (tp_26 hr_120 (show 0 ≤ x_127.toInt ∧ x_127.toInt ≤ 4 from by omega)) dX12_doLay_271 (fun A_129 H locs hE_129 hT hP hS => ?_)
          have ep_130 : x_119.toNatClampNeg = (x1.toInt + 26).toNat := z_posE hi_hr_120
          rw [ep_130] at hE_129
          have FA := frA FA (frAu hE_129) (by decide)
          have FC := fC.tr FC (fC.st (b := x1.toInt) (lo := 26) (hi := 26) hE_129 hb0.1 (by decide) hid_hr_120 hl_hr_120) (by decide)
          have WZ := wz.st WZ hE_129 (Or.inr (by omega))
          refine lv_aload_n hx hb dX12_doLay_272 rfl (lv_at hl 2 rfl) ?_
          refine mg_0 C hs hP ha0 hk0 wf_X12_8 dX12_doLay_273 ?_
          refine lv_iload_n hx hb dX12_doLay_276 rfl (lv_at hl 3 rfl) ?_
          refine lv_bipush (v := 110) hx hb dX12_doLay_277 (by decide) ?_
          refine lv_iadd hx hb dX12_doLay_279 ?_
          refine lv_topi (fun x_131 ex_131 => ?_)
          refine lv_iload hx hb dX12_doLay_280 (lv_at hl 1 rfl) ?_
          refine lv_iadd hx hb dX12_doLay_282 ?_
          refine lv_topi (fun x_132 ex_132 => ?_)
          refine lv_iconst (v := 5) hx hb dX12_doLay_283 (by decide) ?_
          have hi_hr_133 : zEq x_132.toInt (x1.toInt + (A 40 (x1.toInt + 60 * x3.toInt + x4.toInt + 230).toNat).toInt + 110) := by
            obtain ⟨f_131, l_131, u_131⟩ := z_add ex_131 rfl ti_110
            try replace f_131 : x_131.toInt = x1.toInt + 110 := by omega
            clear l_131 u_131
            obtain ⟨f_132, l_132, u_132⟩ := z_add ex_132 rfl rfl
            try replace f_132 : x_132.toInt = x_131.toInt + (A 40 (x1.toInt + 60 * x3.toInt + x4.toInt + 230).toNat).toInt := by omega
            clear l_132 u_132
            show x_132.toInt = (x1.toInt + (A 40 (x1.toInt + 60 * x3.toInt + x4.toInt + 230).toNat).toInt + 110)
            omega
          have hl_hr_133 : 110 ≤ (A 40 (x1.toInt + 60 * x3.toInt + x4.toInt + 230).toNat).toInt + 110 ∧ (A 40 (x1.toInt + 60 * x3.toInt + x4.toInt + 230).toNat).toInt + 110 ≤ 169 := by
            omega
          have hid_hr_133 : (x1.toInt + (A 40 (x1.toInt + 60 * x3.toInt + x4.toInt + 230).toNat).toInt + 110) = x1.toInt + ((A 40 (x1.toInt + 60 * x3.toInt + x4.toInt + 230).toNat).toInt + 110) := by simp only [Int.add_assoc, Int.add_sub_assoc]
          have hr_133 := z_cell (lo := 45) (hi := 169) hp0 hi_hr_133 hid_hr_133 hl_hr_133 (by decide)
          replace hid_hr_133 : zEq (x1.toInt + (A 40 (x1.toInt + 60 * x3.toInt + x4.toInt + 230).toNat).toInt + 110) (x1.toInt + ((A 40 (x1.toInt + 60 * x3.toInt + x4.toInt + 230).toNat).toInt + 110)) := hid_hr_133
          have hin_134 : vp_in x_132 (zn K (zr K a0 0)) := vp_in_iff.mpr (by rw [(hf_1.2.2 (by decide))]; exact hr_133.in)
          refine mst_40 C hM hs hP hS hf_1.1 hT hf_1.2.1 hin_134 (tp_45 hr_133) dX12_doLay_284 (fun A_135 H locs hE_135 hT hP hS => ?_)
          have ep_136 : x_132.toNatClampNeg = (x1.toInt + (A 40 (x1.toInt + 60 * x3.toInt + x4.toInt + 230).toNat).toInt + 110).toNat := z_posE hi_hr_133
          rw [ep_136] at hE_135
          have FA := frA FA (frAu hE_135) (by decide)
          have FC := fC.tr FC (fC.st (b := x1.toInt) (lo := 110) (hi := 169) hE_135 hb0.1 (by decide) hid_hr_133 hl_hr_133) (by decide)
          have WZ := wz.st WZ hE_135 (Or.inl (by rw [ti_5]; decide))
          refine lv_aload_n hx hb dX12_doLay_285 rfl (lv_at hl 2 rfl) ?_
          refine lv_iload_n hx hb dX12_doLay_286 rfl (lv_at hl 3 rfl) ?_
          refine lv_iload_n hx hb dX12_doLay_287 rfl (lv_at hl 5 rfl) ?_
          refine lv_aload_n hx hb dX12_doLay_288 rfl (lv_at hl 2 rfl) ?_
          refine lv_iload_n hx hb dX12_doLay_289 rfl (lv_at hl 3 rfl) ?_
          refine lv_iload hx hb dX12_doLay_290 (lv_at hl 1 rfl) ?_
          have hq_137 : 0 ≤ (A 40 (x1.toInt + 60 * x3.toInt + x4.toInt + 230).toNat).toInt ∧ (A 40 (x1.toInt + 60 * x3.toInt + x4.toInt + 230).toNat).toInt ≤ 59 := by (first | assumption | omega | (intros; omega))
          refine zcS (zrV (As := [.int x1, .int (A 40 (x1.toInt + 60 * x3.toInt + x4.toInt + 230).toNat)]) (b := a0) (rest := [.int x3, .int x1, .ref a0]) C hs hP hS (c_X12_colour l D K hM f A_135 hT a0 ha0 hk0 x1 (A 40 (x1.toInt + 60 * x3.toInt + x4.toInt + 230).toNat) hp0 hq_137) m_X12_colour wm_X12_120 (zrecv hs hP ha0 (zF_11 hk0) rfl) ⟨by decide, by decide⟩ hl.1 (Nat.le_of_ble_eq_true rfl) dX12_doLay_292) (fun x_138 p_138 => ?_)
          have pp_138 : x_138 = mcol (A_135 40) x1 (A 40 (x1.toInt + 60 * x3.toInt + x4.toInt + 230).toNat) := p_138
          have pq_138 := congrArg Int32.toInt pp_138
          have g_139 := z_rng x_138
          have hq_140 : 0 ≤ x3.toInt ∧ x3.toInt ≤ 3 := by (first | assumption | omega | (intros; omega))
          refine mcV (zrV (As := [.int x1, .int x3, .int x_138]) (b := a0) (rest := []) C hs hP hS (c_X12_showFound l D K hM f A_135 hT a0 ha0 hk0 x1 x3 x_138 hp0 hq_140) m_X12_showFound wm_X12_214 (zrecv hs hP ha0 (zF_11 hk0) rfl) ⟨by decide, by decide⟩ hl.1 (Nat.le_of_ble_eq_true rfl) dX12_doLay_295) hS (fun f_141 A_141 H locs p_141 hP hS => ?_)
          obtain ⟨hT, hA_141, hF_141, hC_141, hW_141⟩ := p_141
          have hff_141 : f = f_141 := funext (fun k9 => (hF_141 k9 List.not_mem_nil).symm)
          subst hff_141
          have FA := frA FA hA_141 (by decide)
          have FF := frF FF hF_141 (by decide)
          have FC := fC.tr FC hC_141 (by decide)
          have WZ := wz.tr WZ hW_141
          refine lv_aload_n hx hb dX12_doLay_298 rfl (lv_at hl 2 rfl) ?_
          refine mg_0 C hs hP ha0 hk0 wf_X12_8 dX12_doLay_299 ?_
          refine lv_iload_n hx hb dX12_doLay_302 rfl (lv_at hl 3 rfl) ?_
          refine lv_bipush (v := 9) hx hb dX12_doLay_303 (by decide) ?_
          refine lv_iadd hx hb dX12_doLay_305 ?_
          refine lv_topi (fun x_142 ex_142 => ?_)
          refine lv_aload_n hx hb dX12_doLay_306 rfl (lv_at hl 2 rfl) ?_
          refine lv_iload_n hx hb dX12_doLay_307 rfl (lv_at hl 3 rfl) ?_
          refine lv_iload_n hx hb dX12_doLay_308 rfl (lv_at hl 5 rfl) ?_
          refine lv_iconst (v := 1) hx hb dX12_doLay_309 (by decide) ?_
          refine lv_iadd hx hb dX12_doLay_310 ?_
          refine lv_topi (fun x_143 ex_143 => ?_)
          refine lv_iconst (v := 4) hx hb dX12_doLay_311 (by decide) ?_
          refine lv_irem hx hb dX12_doLay_312 (by decide) ?_
          refine lv_topi (fun x_144 ex_144 => ?_)
          obtain ⟨f_143, l_143, u_143⟩ := z_add ex_143 rfl ti_1
          try replace f_143 : x_143.toInt = x3.toInt + 1 := by omega
          clear l_143 u_143
          have f_144 := z_rem ex_144 rfl ti_4 (by decide)
          have hq_145 : 0 ≤ x_144.toInt ∧ x_144.toInt ≤ 4 := by (first | assumption | omega | (intros; omega))
          refine zcS (zrV (As := [.int x1, .int x_144]) (b := a0) (rest := [.int x_142, .ref (zr K a0 0)]) C hs hP hS (c_X12_seatFrom l D K hM f A_141 hT a0 ha0 hk0 x1 x_144 hp0 hq_145) m_X12_seatFrom wm_X12_162 (zrecv hs hP ha0 (zF_11 hk0) rfl) ⟨by decide, by decide⟩ hl.1 (Nat.le_of_ble_eq_true rfl) dX12_doLay_313) (fun x_146 p_146 => ?_)
          have pp_146 : (x_146.toInt = -1 ∨ (0 ≤ x_146.toInt ∧ x_146.toInt ≤ 3 ∧ 1 ≤ (A_141 40 (x1.toInt + x_146.toInt + 22).toNat).toInt ∧ nL (A_141 40) x1.toInt x_146.toInt (A_141 40 (x1.toInt + 26).toNat).toInt)) := p_146
          have tRs := hT.row hp0
          have FCs := FC
          have WZs := WZ
          have rq_147 : ∀ j : Int, x1.toInt + 22 ≤ j → j ≤ x1.toInt + 25 → A_141 40 j.toNat = A_33 40 j.toNat := fun j h1 h2 => by rw [hC_141.ar hb0.1 (lo := 22) (hi := 25) (by decide) j (by decide) (by omega) (by omega), hE_135, va_up_self, pk_un (show j.toNat ≠ (x1.toInt + (A 40 (x1.toInt + 60 * x3.toInt + x4.toInt + 230).toNat).toInt + 110).toNat by omega), hE_129, va_up_self, pk_un (show j.toNat ≠ (x1.toInt + 26).toNat by omega), hE_116, va_up_self, pk_un (show j.toNat ≠ (x1.toInt + (A_33 40 (x1.toInt + 26).toNat).toInt + 31).toNat by omega), hE_101, va_up_self, pk_un (show j.toNat ≠ (x1.toInt + (A_33 40 (x1.toInt + 26).toNat).toInt + 27).toNat by omega), hE_84, va_up_self, pk_un (show j.toNat ≠ (x1.toInt + 14).toNat by omega)]
          obtain ⟨f_131, l_131, u_131⟩ := z_add ex_131 rfl ti_110
          try replace f_131 : x_131.toInt = x1.toInt + 110 := by omega
          clear l_131 u_131
          obtain ⟨f_132, l_132, u_132⟩ := z_add ex_132 rfl rfl
          try replace f_132 : x_132.toInt = x_131.toInt + (A 40 (x1.toInt + 60 * x3.toInt + x4.toInt + 230).toNat).toInt := by omega
          clear l_132 u_132
          have es_148 : A_141 40 (x1.toInt + 26).toNat = x_127 := by rw [hC_141 (x1.toInt + 26) (by omega) (by simp only [List.mem_cons, List.not_mem_nil, or_false, forall_eq_or_imp, forall_eq]; omega), hE_135, va_up_self, pk_un (show (x1.toInt + 26).toNat ≠ (x1.toInt + (A 40 (x1.toInt + 60 * x3.toInt + x4.toInt + 230).toNat).toInt + 110).toNat by omega), hE_129, va_up_self, pk_us]
          have es_149 : A_141 40 (x1.toInt + 20).toNat = A_33 40 (x1.toInt + 20).toNat := by rw [hC_141 (x1.toInt + 20) (by omega) (by simp only [List.mem_cons, List.not_mem_nil, or_false, forall_eq_or_imp, forall_eq]; omega), hE_135, va_up_self, pk_un (show (x1.toInt + 20).toNat ≠ (x1.toInt + (A 40 (x1.toInt + 60 * x3.toInt + x4.toInt + 230).toNat).toInt + 110).toNat by omega), hE_129, va_up_self, pk_un (show (x1.toInt + 20).toNat ≠ (x1.toInt + 26).toNat by omega), hE_116, va_up_self, pk_un (show (x1.toInt + 20).toNat ≠ (x1.toInt + (A_33 40 (x1.toInt + 26).toNat).toInt + 31).toNat by omega), hE_101, va_up_self, pk_un (show (x1.toInt + 20).toNat ≠ (x1.toInt + (A_33 40 (x1.toInt + 26).toNat).toInt + 27).toNat by omega), hE_84, va_up_self, pk_un (show (x1.toInt + 20).toNat ≠ (x1.toInt + 14).toNat by omega)]
          have es_150 : A_141 40 (x1.toInt + 43).toNat = A_33 40 (x1.toInt + 43).toNat := by rw [hC_141 (x1.toInt + 43) (by omega) (by simp only [List.mem_cons, List.not_mem_nil, or_false, forall_eq_or_imp, forall_eq]; omega), hE_135, va_up_self, pk_un (show (x1.toInt + 43).toNat ≠ (x1.toInt + (A 40 (x1.toInt + 60 * x3.toInt + x4.toInt + 230).toNat).toInt + 110).toNat by omega), hE_129, va_up_self, pk_un (show (x1.toInt + 43).toNat ≠ (x1.toInt + 26).toNat by omega), hE_116, va_up_self, pk_un (show (x1.toInt + 43).toNat ≠ (x1.toInt + (A_33 40 (x1.toInt + 26).toNat).toInt + 31).toNat by omega), hE_101, va_up_self, pk_un (show (x1.toInt + 43).toNat ≠ (x1.toInt + (A_33 40 (x1.toInt + 26).toNat).toInt + 27).toNat by omega), hE_84, va_up_self, pk_un (show (x1.toInt + 43).toNat ≠ (x1.toInt + 14).toNat by omega)]
          have rKs := hp3.2.2.fw hb0.1 FC WZ tR0.p1.2 tR0.p21.2 (by decide) (by decide) (by decide)
          have e21s := FC.ar hb0.1 (lo := 21) (hi := 21) (by decide) (x1.toInt + 21) (by decide) (by omega) (by omega)
          have els : ∀ i : Int, 0 ≤ i → i < (A 40 (x1.toInt + 26).toNat).toInt → A_141 40 (x1.toInt + i + 31).toNat = A 40 (x1.toInt + i + 31).toNat := fun i h1 h2 => by
            rw [hC_141.ar hb0.1 (lo := 31) (hi := 34) (by decide) (x1.toInt + i + 31) (by decide) (by omega) (by omega), hE_135, va_up_self, pk_un (show (x1.toInt + i + 31).toNat ≠ (x1.toInt + (A 40 (x1.toInt + 60 * x3.toInt + x4.toInt + 230).toNat).toInt + 110).toNat by omega), hE_129, va_up_self, pk_un (show (x1.toInt + i + 31).toNat ≠ (x1.toInt + 26).toNat by omega), hE_116, va_up_self, pk_un (show (x1.toInt + i + 31).toNat ≠ (x1.toInt + (A_33 40 (x1.toInt + 26).toNat).toInt + 31).toNat by omega), hE_101, va_up_self, pk_un (show (x1.toInt + i + 31).toNat ≠ (x1.toInt + (A_33 40 (x1.toInt + 26).toNat).toInt + 27).toNat by omega), hE_84, va_up_self, pk_un (show (x1.toInt + i + 31).toNat ≠ (x1.toInt + 14).toNat by omega)]
            exact iv_33_1.ar hb0.1 (lo := 31) (hi := 34) (by decide) (x1.toInt + i + 31) (by decide) (by omega) (by omega)
          have ens : (A_141 40 (x1.toInt + (A 40 (x1.toInt + 26).toNat).toInt + 31).toNat).toInt = x3.toInt := by
            rw [← e26q]
            rw [hC_141.ar hb0.1 (lo := 31) (hi := 34) (by decide) (x1.toInt + (A_33 40 (x1.toInt + 26).toNat).toInt + 31) (by decide) (by omega) (by omega), hE_135, va_up_self, pk_un (show (x1.toInt + (A_33 40 (x1.toInt + 26).toNat).toInt + 31).toNat ≠ (x1.toInt + (A 40 (x1.toInt + 60 * x3.toInt + x4.toInt + 230).toNat).toInt + 110).toNat by omega), hE_129, va_up_self, pk_un (show (x1.toInt + (A_33 40 (x1.toInt + 26).toNat).toInt + 31).toNat ≠ (x1.toInt + 26).toNat by omega), hE_116, va_up_self, pk_us]
          have rPs := rowP.dl (C1 := A_141 40) hp3 tR0 hp1 hp4 (by omega) (by unfold hd; rw [rq_147 (x1.toInt + x3.toInt + 22) (by omega) (by omega)]; exact iv_33_2) (fun q9 h1 h2 h3 => by unfold hd; rw [rq_147 (x1.toInt + q9 + 22) (by omega) (by omega), iv_33_3 q9 h1 h2 h3]) (by rw [e21s]) (by rw [es_149, e20q]) (by rw [es_148]; omega) (by rw [es_150]; omega) els ens rKs
          have hi_hr_151 : zEq x_142.toInt (x1.toInt + 9) := by
            obtain ⟨f_142, l_142, u_142⟩ := z_add ex_142 rfl ti_9
            try replace f_142 : x_142.toInt = x1.toInt + 9 := by omega
            clear l_142 u_142
            show x_142.toInt = (x1.toInt + 9)
            omega
          have hl_hr_151 : (9 : Int) ≤ 9 ∧ 9 ≤ (9 : Int) := by decide
          have hid_hr_151 : (x1.toInt + 9) = x1.toInt + (9) := by simp only [Int.add_assoc, Int.add_sub_assoc]
          have hr_151 := z_cell (lo := 9) (hi := 9) hp0 hi_hr_151 hid_hr_151 hl_hr_151 (by decide)
          replace hid_hr_151 : zEq (x1.toInt + 9) (x1.toInt + (9)) := hid_hr_151
          have hin_152 : vp_in x_142 (zn K (zr K a0 0)) := vp_in_iff.mpr (by rw [(hf_1.2.2 (by decide))]; exact hr_151.in)
          have g_154 := z_rng x_146
          refine mst_40 C hM hs hP hS hf_1.1 hT hf_1.2.1 hin_152 (tp_9 hr_151 (show -1 ≤ x_146.toInt ∧ x_146.toInt ≤ 3 from by omega)) dX12_doLay_316 (fun A_153 H locs hE_153 hT hP hS => ?_)
          have ep_155 : x_142.toNatClampNeg = (x1.toInt + 9).toNat := z_posE hi_hr_151
          rw [ep_155] at hE_153
          have FA := frA FA (frAu hE_153) (by decide)
          have FC := fC.tr FC (fC.st (b := x1.toInt) (lo := 9) (hi := 9) hE_153 hb0.1 (by decide) hid_hr_151 hl_hr_151) (by decide)
          have WZ := wz.st WZ hE_153 (Or.inr (by omega))
          have hRN := rowN.nx rPs tRs hb0.1 hE_153 pp_146
          refine lv_aload_n hx hb dX12_doLay_317 rfl (lv_at hl 2 rfl) ?_
          refine mg_0 C hs hP ha0 hk0 wf_X12_8 dX12_doLay_318 ?_
          refine lv_iload_n hx hb dX12_doLay_321 rfl (lv_at hl 3 rfl) ?_
          refine lv_bipush (v := 9) hx hb dX12_doLay_322 (by decide) ?_
          refine lv_iadd hx hb dX12_doLay_324 ?_
          refine lv_topi (fun x_156 ex_156 => ?_)
          have hi_hr_157 : zEq x_156.toInt (x1.toInt + 9) := by
            obtain ⟨f_156, l_156, u_156⟩ := z_add ex_156 rfl ti_9
            try replace f_156 : x_156.toInt = x1.toInt + 9 := by omega
            clear l_156 u_156
            show x_156.toInt = (x1.toInt + 9)
            omega
          have hl_hr_157 : (9 : Int) ≤ 9 ∧ 9 ≤ (9 : Int) := by decide
          have hid_hr_157 : (x1.toInt + 9) = x1.toInt + (9) := by simp only [Int.add_assoc, Int.add_sub_assoc]
          have hr_157 := z_cell (lo := 9) (hi := 9) hp0 hi_hr_157 hid_hr_157 hl_hr_157 (by decide)
          replace hid_hr_157 : zEq (x1.toInt + 9) (x1.toInt + (9)) := hid_hr_157
          have hin_158 : vp_in x_156 (zn K (zr K a0 0)) := vp_in_iff.mpr (by rw [(hf_1.2.2 (by decide))]; exact hr_157.in)
          refine mld_40 C hs hP hf_1.1 hf_1.2.1 hin_158 dX12_doLay_325 ?_
          have ep_159 : x_156.toNatClampNeg = (x1.toInt + 9).toNat := z_posE hi_hr_157
          rw [ep_159]
          have ev_160 : A_153 40 (x1.toInt + 9).toNat = x_146 := by rw [hE_153, va_up_self, pk_us]
          have tv_161 := rv_9 hT hr_157
          rw [ep_159] at tv_161
          rw [ev_160] at tv_161
          rw [ev_160]
          refine lv_iconst (v := (-1)) hx hb dX12_doLay_326 (by decide) ?_
          refine bi_ne (tgt := 336) hx hb rfl ti_m1 dX12_doLay_327 (by decide) (fun c_162 => ?_) (fun c_162 => ?_)
          · skip
            exact maV hQ hx hb hr hlk hP hS ⟨hT, FA, FF, FC, WZ, ⟨by omega, by omega, by omega, by omega, fun h9 => by omega, hRN⟩⟩ dX12_doLay_336
          · skip
            refine lv_aload_n hx hb dX12_doLay_330 rfl (lv_at hl 2 rfl) ?_
            refine lv_iload_n hx hb dX12_doLay_331 rfl (lv_at hl 3 rfl) ?_
            refine lv_iload_n hx hb dX12_doLay_332 rfl (lv_at hl 4 rfl) ?_
            have g_163 := z_rng x2
            have hq_164 : rowP (A_153 40) x1.toInt := by exact hRN.1
            obtain ⟨f_142, l_142, u_142⟩ := z_add ex_142 rfl ti_9
            try replace f_142 : x_142.toInt = x1.toInt + 9 := by omega
            clear l_142 u_142
            have es_166 : A_153 40 (x1.toInt + 26).toNat = x_127 := by rw [hE_153, va_up_self, pk_un (show (x1.toInt + 26).toNat ≠ (x1.toInt + 9).toNat by omega), hC_141 (x1.toInt + 26) (by omega) (by simp only [List.mem_cons, List.not_mem_nil, or_false, forall_eq_or_imp, forall_eq]; omega), hE_135, va_up_self, pk_un (show (x1.toInt + 26).toNat ≠ (x1.toInt + (A 40 (x1.toInt + 60 * x3.toInt + x4.toInt + 230).toNat).toInt + 110).toNat by omega), hE_129, va_up_self, pk_us]
            have hq_165 : 1 ≤ (A_153 40 (x1.toInt + 26).toNat).toInt := by rw [es_166] <;> (first | assumption | omega | (intros; omega))
            have hq_167 : (f 11).toInt ≤ 1960000000 := by (first | assumption | omega | (intros; omega))
            have hq_168 : (f 9).toInt ≤ 1960000000 := by (first | assumption | omega | (intros; omega))
            refine mcV (zrV (As := [.int x1, .int x2]) (b := a0) (rest := []) C hs hP hS (c_X12_endTrick l D K hM f A_153 hT a0 ha0 hk0 x1 x2 hp0 hq_164 hq_165 hq_167 hq_168) m_X12_endTrick wm_X12_217 (zrecv hs hP ha0 (zF_11 hk0) rfl) ⟨by decide, by decide⟩ hl.1 (Nat.le_of_ble_eq_true rfl) dX12_doLay_333) hS (fun f_169 A_169 H locs p_169 hP hS => ?_)
            obtain ⟨hT, hA_169, hF_169, hC_169, hW_169, pp_169⟩ := p_169
            have pp_169 : (f 9).toInt ≤ (f_169 9).toInt ∧ (f_169 9).toInt ≤ (f 9).toInt + 2 ∧ (f 11).toInt ≤ (f_169 11).toInt ∧ (f_169 11).toInt ≤ (f 11).toInt + 13 ∧ ((f 12).toInt ≠ 0 → (f_169 11).toInt = (f 11).toInt) ∧ rowN (A_169 40) x1.toInt := pp_169
            have pp0_169 := pp_169
            have FA := frA FA hA_169 (by decide)
            have FF := frF FF hF_169 (by decide)
            have FC := fC.tr FC hC_169 (by decide)
            have WZ := wz.tr WZ hW_169
            have hRN := pp0_169.2.2.2.2.2
            exact maV hQ hx hb hr hlk hP hS ⟨hT, FA, FF, FC, WZ, ⟨by omega, by omega, by omega, by omega, fun h9 => by omega, hRN⟩⟩ dX12_doLay_336
        · skip
          refine lv_aload_n hx hb dX12_doLay_107 rfl (lv_at hl 2 rfl) ?_
          refine mg_0 C hs hP ha0 hk0 wf_X12_8 dX12_doLay_108 ?_
          refine lv_iload_n hx hb dX12_doLay_111 rfl (lv_at hl 3 rfl) ?_
          refine lv_bipush (v := 43) hx hb dX12_doLay_112 (by decide) ?_
          refine lv_iadd hx hb dX12_doLay_114 ?_
          refine lv_topi (fun x_170 ex_170 => ?_)
          have hi_hr_171 : zEq x_170.toInt (x1.toInt + 43) := by
            have g_172 := z_rng x1
            obtain ⟨f_170, l_170, u_170⟩ := z_add ex_170 rfl ti_43
            try replace f_170 : x_170.toInt = x1.toInt + 43 := by omega
            clear l_170 u_170
            show x_170.toInt = (x1.toInt + 43)
            omega
          have hl_hr_171 : (43 : Int) ≤ 43 ∧ 43 ≤ (43 : Int) := by decide
          have hid_hr_171 : (x1.toInt + 43) = x1.toInt + (43) := by simp only [Int.add_assoc, Int.add_sub_assoc]
          have hr_171 := z_cell (lo := 43) (hi := 43) hp0 hi_hr_171 hid_hr_171 hl_hr_171 (by decide)
          replace hid_hr_171 : zEq (x1.toInt + 43) (x1.toInt + (43)) := hid_hr_171
          have hin_173 : vp_in x_170 (zn K (zr K a0 0)) := vp_in_iff.mpr (by rw [(hf_1.2.2 (by decide))]; exact hr_171.in)
          refine mld_40 C hs hP hf_1.1 hf_1.2.1 hin_173 dX12_doLay_115 ?_
          have ep_174 : x_170.toNatClampNeg = (x1.toInt + 43).toNat := z_posE hi_hr_171
          rw [ep_174]
          have tv_175 := rv_43 hT hr_171
          rw [ep_174] at tv_175
          refine lv_istore (lv' := [(6, .int (A_33 40 (x1.toInt + 43).toNat)), (5, .int (A 40 (x1.toInt + 60 * x3.toInt + x4.toInt + 230).toNat)), (0, .ref a0), (1, .int x1), (2, .int x2), (3, .int x3), (4, .int x4)]) hx hb dX12_doLay_116 hl (by decide) rfl (fun ls hl => ?_)
          refine lv_aload_n hx hb dX12_doLay_118 rfl (lv_at hl 2 rfl) ?_
          refine mg_0 C hs hP ha0 hk0 wf_X12_8 dX12_doLay_119 ?_
          refine lv_iload_n hx hb dX12_doLay_122 rfl (lv_at hl 3 rfl) ?_
          refine lv_sipush (v := 650) hx hb dX12_doLay_123 (by decide) ?_
          refine lv_iadd hx hb dX12_doLay_126 ?_
          refine lv_topi (fun x_176 ex_176 => ?_)
          refine lv_iload hx hb dX12_doLay_127 (lv_at hl 0 rfl) ?_
          refine lv_iadd hx hb dX12_doLay_129 ?_
          refine lv_topi (fun x_177 ex_177 => ?_)
          refine lv_iload_n hx hb dX12_doLay_130 rfl (lv_at hl 5 rfl) ?_
          have hi_hr_178 : zEq x_177.toInt (x1.toInt + (A_33 40 (x1.toInt + 43).toNat).toInt + 650) := by
            have g_179 := z_rng x1
            obtain ⟨f_176, l_176, u_176⟩ := z_add ex_176 rfl ti_650
            try replace f_176 : x_176.toInt = x1.toInt + 650 := by omega
            clear l_176 u_176
            have g_180 := z_rng (A_33 40 (x1.toInt + 43).toNat)
            obtain ⟨f_177, l_177, u_177⟩ := z_add ex_177 rfl rfl
            try replace f_177 : x_177.toInt = x_176.toInt + (A_33 40 (x1.toInt + 43).toNat).toInt := by omega
            clear l_177 u_177
            show x_177.toInt = (x1.toInt + (A_33 40 (x1.toInt + 43).toNat).toInt + 650)
            omega
          have hl_hr_178 : 650 ≤ (A_33 40 (x1.toInt + 43).toNat).toInt + 650 ∧ (A_33 40 (x1.toInt + 43).toNat).toInt + 650 ≤ 709 := by
            have g_181 := z_rng x1
            have g_182 := z_rng (A_33 40 (x1.toInt + 43).toNat)
            omega
          have hid_hr_178 : (x1.toInt + (A_33 40 (x1.toInt + 43).toNat).toInt + 650) = x1.toInt + ((A_33 40 (x1.toInt + 43).toNat).toInt + 650) := by simp only [Int.add_assoc, Int.add_sub_assoc]
          have hr_178 := z_cell (lo := 470) (hi := 769) hp0 hi_hr_178 hid_hr_178 hl_hr_178 (by decide)
          replace hid_hr_178 : zEq (x1.toInt + (A_33 40 (x1.toInt + 43).toNat).toInt + 650) (x1.toInt + ((A_33 40 (x1.toInt + 43).toNat).toInt + 650)) := hid_hr_178
          have hin_183 : vp_in x_177 (zn K (zr K a0 0)) := vp_in_iff.mpr (by rw [(hf_1.2.2 (by decide))]; exact hr_178.in)
          refine mst_40 C hM hs hP hS hf_1.1 hT hf_1.2.1 hin_183 (tp_470 hr_178) dX12_doLay_131 (fun A_184 H locs hE_184 hT hP hS => ?_)
          have ep_185 : x_177.toNatClampNeg = (x1.toInt + (A_33 40 (x1.toInt + 43).toNat).toInt + 650).toNat := z_posE hi_hr_178
          rw [ep_185] at hE_184
          have FA := frA FA (frAu hE_184) (by decide)
          have FC := fC.tr FC (fC.st (b := x1.toInt) (lo := 650) (hi := 709) hE_184 hb0.1 (by decide) hid_hr_178 hl_hr_178) (by decide)
          have WZ := wz.st WZ hE_184 (Or.inr (by omega))
          refine lv_aload_n hx hb dX12_doLay_132 rfl (lv_at hl 2 rfl) ?_
          refine mg_0 C hs hP ha0 hk0 wf_X12_8 dX12_doLay_133 ?_
          refine lv_iload_n hx hb dX12_doLay_136 rfl (lv_at hl 3 rfl) ?_
          refine lv_sipush (v := 710) hx hb dX12_doLay_137 (by decide) ?_
          refine lv_iadd hx hb dX12_doLay_140 ?_
          refine lv_topi (fun x_186 ex_186 => ?_)
          refine lv_iload hx hb dX12_doLay_141 (lv_at hl 0 rfl) ?_
          refine lv_iadd hx hb dX12_doLay_143 ?_
          refine lv_topi (fun x_187 ex_187 => ?_)
          refine lv_aload_n hx hb dX12_doLay_144 rfl (lv_at hl 2 rfl) ?_
          refine lv_iload_n hx hb dX12_doLay_145 rfl (lv_at hl 3 rfl) ?_
          refine lv_aload_n hx hb dX12_doLay_146 rfl (lv_at hl 2 rfl) ?_
          refine mg_0 C hs hP ha0 hk0 wf_X12_8 dX12_doLay_147 ?_
          refine lv_iload_n hx hb dX12_doLay_150 rfl (lv_at hl 3 rfl) ?_
          refine lv_bipush (v := 27) hx hb dX12_doLay_151 (by decide) ?_
          refine lv_iadd hx hb dX12_doLay_153 ?_
          refine lv_topi (fun x_188 ex_188 => ?_)
          have hi_hr_189 : zEq x_188.toInt (x1.toInt + 27) := by
            have g_190 := z_rng x1
            obtain ⟨f_188, l_188, u_188⟩ := z_add ex_188 rfl ti_27
            try replace f_188 : x_188.toInt = x1.toInt + 27 := by omega
            clear l_188 u_188
            show x_188.toInt = (x1.toInt + 27)
            omega
          have hl_hr_189 : (27 : Int) ≤ 27 ∧ 27 ≤ (27 : Int) := by decide
          have hid_hr_189 : (x1.toInt + 27) = x1.toInt + (27) := by simp only [Int.add_assoc, Int.add_sub_assoc]
          have hr_189 := z_cell (lo := 27) (hi := 30) hp0 hi_hr_189 hid_hr_189 hl_hr_189 (by decide)
          replace hid_hr_189 : zEq (x1.toInt + 27) (x1.toInt + (27)) := hid_hr_189
          have hin_191 : vp_in x_188 (zn K (zr K a0 0)) := vp_in_iff.mpr (by rw [(hf_1.2.2 (by decide))]; exact hr_189.in)
          refine mld_40 C hs hP hf_1.1 hf_1.2.1 hin_191 dX12_doLay_154 ?_
          have ep_192 : x_188.toNatClampNeg = (x1.toInt + 27).toNat := z_posE hi_hr_189
          rw [ep_192]
          have g_194 := z_rng x1
          obtain ⟨f_188, l_188, u_188⟩ := z_add ex_188 rfl ti_27
          try replace f_188 : x_188.toInt = x1.toInt + 27 := by omega
          clear l_188 u_188
          obtain ⟨f_176, l_176, u_176⟩ := z_add ex_176 rfl ti_650
          try replace f_176 : x_176.toInt = x1.toInt + 650 := by omega
          clear l_176 u_176
          have g_195 := z_rng (A_33 40 (x1.toInt + 43).toNat)
          obtain ⟨f_177, l_177, u_177⟩ := z_add ex_177 rfl rfl
          try replace f_177 : x_177.toInt = x_176.toInt + (A_33 40 (x1.toInt + 43).toNat).toInt := by omega
          clear l_177 u_177
          have hn_193 : (x1.toInt + 27).toNat ≠ (x1.toInt + (A_33 40 (x1.toInt + 43).toNat).toInt + 650).toNat := by omega
          have ev_196 : A_184 40 (x1.toInt + 27).toNat = A_33 40 (x1.toInt + 27).toNat := by rw [hE_184, va_up_self, pk_un hn_193]
          have tv_197 := rv_27 hT hr_189
          rw [ep_192] at tv_197
          rw [ev_196] at tv_197
          rw [ev_196]
          have g_198 := z_rng (A_33 40 (x1.toInt + 27).toNat)
          have hq_199 : 0 ≤ (A_33 40 (x1.toInt + 27).toNat).toInt ∧ (A_33 40 (x1.toInt + 27).toNat).toInt ≤ 59 := by (first | assumption | omega | (intros; omega))
          refine zcS (zrV (As := [.int x1, .int (A_33 40 (x1.toInt + 27).toNat)]) (b := a0) (rest := [.int x_187, .ref (zr K a0 0)]) C hs hP hS (c_X12_colour l D K hM f A_184 hT a0 ha0 hk0 x1 (A_33 40 (x1.toInt + 27).toNat) hp0 hq_199) m_X12_colour wm_X12_120 (zrecv hs hP ha0 (zF_11 hk0) rfl) ⟨by decide, by decide⟩ hl.1 (Nat.le_of_ble_eq_true rfl) dX12_doLay_155) (fun x_200 p_200 => ?_)
          have pp_200 : x_200 = mcol (A_184 40) x1 (A_33 40 (x1.toInt + 27).toNat) := p_200
          have pq_200 := congrArg Int32.toInt pp_200
          have hi_hr_201 : zEq x_187.toInt (x1.toInt + (A_33 40 (x1.toInt + 43).toNat).toInt + 710) := by
            obtain ⟨f_186, l_186, u_186⟩ := z_add ex_186 rfl ti_710
            try replace f_186 : x_186.toInt = x1.toInt + 710 := by omega
            clear l_186 u_186
            obtain ⟨f_187, l_187, u_187⟩ := z_add ex_187 rfl rfl
            try replace f_187 : x_187.toInt = x_186.toInt + (A_33 40 (x1.toInt + 43).toNat).toInt := by omega
            clear l_187 u_187
            show x_187.toInt = (x1.toInt + (A_33 40 (x1.toInt + 43).toNat).toInt + 710)
            omega
          have hl_hr_201 : 710 ≤ (A_33 40 (x1.toInt + 43).toNat).toInt + 710 ∧ (A_33 40 (x1.toInt + 43).toNat).toInt + 710 ≤ 769 := by
            omega
          have hid_hr_201 : (x1.toInt + (A_33 40 (x1.toInt + 43).toNat).toInt + 710) = x1.toInt + ((A_33 40 (x1.toInt + 43).toNat).toInt + 710) := by simp only [Int.add_assoc, Int.add_sub_assoc]
          have hr_201 := z_cell (lo := 470) (hi := 769) hp0 hi_hr_201 hid_hr_201 hl_hr_201 (by decide)
          replace hid_hr_201 : zEq (x1.toInt + (A_33 40 (x1.toInt + 43).toNat).toInt + 710) (x1.toInt + ((A_33 40 (x1.toInt + 43).toNat).toInt + 710)) := hid_hr_201
          have hin_202 : vp_in x_187 (zn K (zr K a0 0)) := vp_in_iff.mpr (by rw [(hf_1.2.2 (by decide))]; exact hr_201.in)
          refine mst_40 C hM hs hP hS hf_1.1 hT hf_1.2.1 hin_202 (tp_470 hr_201) dX12_doLay_158 (fun A_203 H locs hE_203 hT hP hS => ?_)
          have ep_204 : x_187.toNatClampNeg = (x1.toInt + (A_33 40 (x1.toInt + 43).toNat).toInt + 710).toNat := z_posE hi_hr_201
          rw [ep_204] at hE_203
          have FA := frA FA (frAu hE_203) (by decide)
          have FC := fC.tr FC (fC.st (b := x1.toInt) (lo := 710) (hi := 769) hE_203 hb0.1 (by decide) hid_hr_201 hl_hr_201) (by decide)
          have WZ := wz.st WZ hE_203 (Or.inr (by omega))
          refine lv_aload_n hx hb dX12_doLay_159 rfl (lv_at hl 2 rfl) ?_
          refine mg_0 C hs hP ha0 hk0 wf_X12_8 dX12_doLay_160 ?_
          refine lv_iload_n hx hb dX12_doLay_163 rfl (lv_at hl 3 rfl) ?_
          refine lv_sipush (v := 770) hx hb dX12_doLay_164 (by decide) ?_
          refine lv_iadd hx hb dX12_doLay_167 ?_
          refine lv_topi (fun x_205 ex_205 => ?_)
          refine lv_iload hx hb dX12_doLay_168 (lv_at hl 0 rfl) ?_
          refine lv_iadd hx hb dX12_doLay_170 ?_
          refine lv_topi (fun x_206 ex_206 => ?_)
          refine lv_aload_n hx hb dX12_doLay_171 rfl (lv_at hl 2 rfl) ?_
          refine mg_0 C hs hP ha0 hk0 wf_X12_8 dX12_doLay_172 ?_
          refine lv_iload_n hx hb dX12_doLay_175 rfl (lv_at hl 3 rfl) ?_
          refine lv_bipush (v := 20) hx hb dX12_doLay_176 (by decide) ?_
          refine lv_iadd hx hb dX12_doLay_178 ?_
          refine lv_topi (fun x_207 ex_207 => ?_)
          have hi_hr_208 : zEq x_207.toInt (x1.toInt + 20) := by
            obtain ⟨f_207, l_207, u_207⟩ := z_add ex_207 rfl ti_20
            try replace f_207 : x_207.toInt = x1.toInt + 20 := by omega
            clear l_207 u_207
            show x_207.toInt = (x1.toInt + 20)
            omega
          have hl_hr_208 : (20 : Int) ≤ 20 ∧ 20 ≤ (20 : Int) := by decide
          have hid_hr_208 : (x1.toInt + 20) = x1.toInt + (20) := by simp only [Int.add_assoc, Int.add_sub_assoc]
          have hr_208 := z_cell (lo := 20) (hi := 21) hp0 hi_hr_208 hid_hr_208 hl_hr_208 (by decide)
          replace hid_hr_208 : zEq (x1.toInt + 20) (x1.toInt + (20)) := hid_hr_208
          have hin_209 : vp_in x_207 (zn K (zr K a0 0)) := vp_in_iff.mpr (by rw [(hf_1.2.2 (by decide))]; exact hr_208.in)
          refine mld_40 C hs hP hf_1.1 hf_1.2.1 hin_209 dX12_doLay_179 ?_
          have ep_210 : x_207.toNatClampNeg = (x1.toInt + 20).toNat := z_posE hi_hr_208
          rw [ep_210]
          obtain ⟨f_207, l_207, u_207⟩ := z_add ex_207 rfl ti_20
          try replace f_207 : x_207.toInt = x1.toInt + 20 := by omega
          clear l_207 u_207
          obtain ⟨f_186, l_186, u_186⟩ := z_add ex_186 rfl ti_710
          try replace f_186 : x_186.toInt = x1.toInt + 710 := by omega
          clear l_186 u_186
          obtain ⟨f_187, l_187, u_187⟩ := z_add ex_187 rfl rfl
          try replace f_187 : x_187.toInt = x_186.toInt + (A_33 40 (x1.toInt + 43).toNat).toInt := by omega
          clear l_187 u_187
          have hn_211 : (x1.toInt + 20).toNat ≠ (x1.toInt + (A_33 40 (x1.toInt + 43).toNat).toInt + 710).toNat := by omega
          have hn_212 : (x1.toInt + 20).toNat ≠ (x1.toInt + (A_33 40 (x1.toInt + 43).toNat).toInt + 650).toNat := by omega
          have ev_213 : A_203 40 (x1.toInt + 20).toNat = A_33 40 (x1.toInt + 20).toNat := by rw [hE_203, va_up_self, pk_un hn_211, hE_184, va_up_self, pk_un hn_212]
          have tv_214 := rv_20 hT hr_208
          rw [ep_210] at tv_214
          rw [ev_213] at tv_214
          rw [ev_213]
          have hi_hr_215 : zEq x_206.toInt (x1.toInt + (A_33 40 (x1.toInt + 43).toNat).toInt + 770) := by
            obtain ⟨f_205, l_205, u_205⟩ := z_add ex_205 rfl ti_770
            try replace f_205 : x_205.toInt = x1.toInt + 770 := by omega
            clear l_205 u_205
            obtain ⟨f_206, l_206, u_206⟩ := z_add ex_206 rfl rfl
            try replace f_206 : x_206.toInt = x_205.toInt + (A_33 40 (x1.toInt + 43).toNat).toInt := by omega
            clear l_206 u_206
            show x_206.toInt = (x1.toInt + (A_33 40 (x1.toInt + 43).toNat).toInt + 770)
            omega
          have hl_hr_215 : 770 ≤ (A_33 40 (x1.toInt + 43).toNat).toInt + 770 ∧ (A_33 40 (x1.toInt + 43).toNat).toInt + 770 ≤ 829 := by
            omega
          have hid_hr_215 : (x1.toInt + (A_33 40 (x1.toInt + 43).toNat).toInt + 770) = x1.toInt + ((A_33 40 (x1.toInt + 43).toNat).toInt + 770) := by simp only [Int.add_assoc, Int.add_sub_assoc]
          have hr_215 := z_cell (lo := 770) (hi := 829) hp0 hi_hr_215 hid_hr_215 hl_hr_215 (by decide)
          replace hid_hr_215 : zEq (x1.toInt + (A_33 40 (x1.toInt + 43).toNat).toInt + 770) (x1.toInt + ((A_33 40 (x1.toInt + 43).toNat).toInt + 770)) := hid_hr_215
          have hin_216 : vp_in x_206 (zn K (zr K a0 0)) := vp_in_iff.mpr (by rw [(hf_1.2.2 (by decide))]; exact hr_215.in)
          have g_218 := z_rng (A_33 40 (x1.toInt + 20).toNat)
          refine mst_40 C hM hs hP hS hf_1.1 hT hf_1.2.1 hin_216 (tp_770 hr_215 (show 0 ≤ (A_33 40 (x1.toInt + 20).toNat).toInt ∧ (A_33 40 (x1.toInt + 20).toNat).toInt ≤ 59 from by omega)) dX12_doLay_180 (fun A_217 H locs hE_217 hT hP hS => ?_)
          have ep_219 : x_206.toNatClampNeg = (x1.toInt + (A_33 40 (x1.toInt + 43).toNat).toInt + 770).toNat := z_posE hi_hr_215
          rw [ep_219] at hE_217
          have FA := frA FA (frAu hE_217) (by decide)
          have FC := fC.tr FC (fC.st (b := x1.toInt) (lo := 770) (hi := 829) hE_217 hb0.1 (by decide) hid_hr_215 hl_hr_215) (by decide)
          have WZ := wz.st WZ hE_217 (Or.inr (by omega))
          refine lv_aload_n hx hb dX12_doLay_181 rfl (lv_at hl 2 rfl) ?_
          refine mg_0 C hs hP ha0 hk0 wf_X12_8 dX12_doLay_182 ?_
          refine lv_iload_n hx hb dX12_doLay_185 rfl (lv_at hl 3 rfl) ?_
          refine lv_sipush (v := 830) hx hb dX12_doLay_186 (by decide) ?_
          refine lv_iadd hx hb dX12_doLay_189 ?_
          refine lv_topi (fun x_220 ex_220 => ?_)
          refine lv_iload hx hb dX12_doLay_190 (lv_at hl 0 rfl) ?_
          refine lv_iadd hx hb dX12_doLay_192 ?_
          refine lv_topi (fun x_221 ex_221 => ?_)
          refine lv_iconst (v := 0) hx hb dX12_doLay_193 (by decide) ?_
          have hi_hr_222 : zEq x_221.toInt (x1.toInt + (A_33 40 (x1.toInt + 43).toNat).toInt + 830) := by
            obtain ⟨f_220, l_220, u_220⟩ := z_add ex_220 rfl ti_830
            try replace f_220 : x_220.toInt = x1.toInt + 830 := by omega
            clear l_220 u_220
            obtain ⟨f_221, l_221, u_221⟩ := z_add ex_221 rfl rfl
            try replace f_221 : x_221.toInt = x_220.toInt + (A_33 40 (x1.toInt + 43).toNat).toInt := by omega
            clear l_221 u_221
            show x_221.toInt = (x1.toInt + (A_33 40 (x1.toInt + 43).toNat).toInt + 830)
            omega
          have hl_hr_222 : 830 ≤ (A_33 40 (x1.toInt + 43).toNat).toInt + 830 ∧ (A_33 40 (x1.toInt + 43).toNat).toInt + 830 ≤ 889 := by
            omega
          have hid_hr_222 : (x1.toInt + (A_33 40 (x1.toInt + 43).toNat).toInt + 830) = x1.toInt + ((A_33 40 (x1.toInt + 43).toNat).toInt + 830) := by simp only [Int.add_assoc, Int.add_sub_assoc]
          have hr_222 := z_cell (lo := 830) (hi := 1289) hp0 hi_hr_222 hid_hr_222 hl_hr_222 (by decide)
          replace hid_hr_222 : zEq (x1.toInt + (A_33 40 (x1.toInt + 43).toNat).toInt + 830) (x1.toInt + ((A_33 40 (x1.toInt + 43).toNat).toInt + 830)) := hid_hr_222
          have hin_223 : vp_in x_221 (zn K (zr K a0 0)) := vp_in_iff.mpr (by rw [(hf_1.2.2 (by decide))]; exact hr_222.in)
          refine mst_40 C hM hs hP hS hf_1.1 hT hf_1.2.1 hin_223 (tp_830 hr_222) dX12_doLay_194 (fun A_224 H locs hE_224 hT hP hS => ?_)
          have ep_225 : x_221.toNatClampNeg = (x1.toInt + (A_33 40 (x1.toInt + 43).toNat).toInt + 830).toNat := z_posE hi_hr_222
          rw [ep_225] at hE_224
          have FA := frA FA (frAu hE_224) (by decide)
          have FC := fC.tr FC (fC.st (b := x1.toInt) (lo := 830) (hi := 889) hE_224 hb0.1 (by decide) hid_hr_222 hl_hr_222) (by decide)
          have WZ := wz.st WZ hE_224 (Or.inr (by omega))
          refine lv_aload_n hx hb dX12_doLay_195 rfl (lv_at hl 2 rfl) ?_
          refine mg_0 C hs hP ha0 hk0 wf_X12_8 dX12_doLay_196 ?_
          refine lv_iload_n hx hb dX12_doLay_199 rfl (lv_at hl 3 rfl) ?_
          refine lv_bipush (v := 43) hx hb dX12_doLay_200 (by decide) ?_
          refine lv_iadd hx hb dX12_doLay_202 ?_
          refine lv_topi (fun x_226 ex_226 => ?_)
          refine lv_dup2_11 hx hb dX12_doLay_203 rfl rfl ?_
          have hi_hr_227 : zEq x_226.toInt (x1.toInt + 43) := by
            obtain ⟨f_226, l_226, u_226⟩ := z_add ex_226 rfl ti_43
            try replace f_226 : x_226.toInt = x1.toInt + 43 := by omega
            clear l_226 u_226
            show x_226.toInt = (x1.toInt + 43)
            omega
          have hl_hr_227 : (43 : Int) ≤ 43 ∧ 43 ≤ (43 : Int) := by decide
          have hid_hr_227 : (x1.toInt + 43) = x1.toInt + (43) := by simp only [Int.add_assoc, Int.add_sub_assoc]
          have hr_227 := z_cell (lo := 43) (hi := 43) hp0 hi_hr_227 hid_hr_227 hl_hr_227 (by decide)
          replace hid_hr_227 : zEq (x1.toInt + 43) (x1.toInt + (43)) := hid_hr_227
          have hin_228 : vp_in x_226 (zn K (zr K a0 0)) := vp_in_iff.mpr (by rw [(hf_1.2.2 (by decide))]; exact hr_227.in)
          refine mld_40 C hs hP hf_1.1 hf_1.2.1 hin_228 dX12_doLay_204 ?_
          have ep_229 : x_226.toNatClampNeg = (x1.toInt + 43).toNat := z_posE hi_hr_227
          rw [ep_229]
          obtain ⟨f_226, l_226, u_226⟩ := z_add ex_226 rfl ti_43
          try replace f_226 : x_226.toInt = x1.toInt + 43 := by omega
          clear l_226 u_226
          obtain ⟨f_220, l_220, u_220⟩ := z_add ex_220 rfl ti_830
          try replace f_220 : x_220.toInt = x1.toInt + 830 := by omega
          clear l_220 u_220
          obtain ⟨f_221, l_221, u_221⟩ := z_add ex_221 rfl rfl
          try replace f_221 : x_221.toInt = x_220.toInt + (A_33 40 (x1.toInt + 43).toNat).toInt := by omega
          clear l_221 u_221
          have hn_230 : (x1.toInt + 43).toNat ≠ (x1.toInt + (A_33 40 (x1.toInt + 43).toNat).toInt + 830).toNat := by omega
          obtain ⟨f_205, l_205, u_205⟩ := z_add ex_205 rfl ti_770
          try replace f_205 : x_205.toInt = x1.toInt + 770 := by omega
          clear l_205 u_205
          obtain ⟨f_206, l_206, u_206⟩ := z_add ex_206 rfl rfl
          try replace f_206 : x_206.toInt = x_205.toInt + (A_33 40 (x1.toInt + 43).toNat).toInt := by omega
          clear l_206 u_206
          have hn_231 : (x1.toInt + 43).toNat ≠ (x1.toInt + (A_33 40 (x1.toInt + 43).toNat).toInt + 770).toNat := by omega
          have hn_232 : (x1.toInt + 43).toNat ≠ (x1.toInt + (A_33 40 (x1.toInt + 43).toNat).toInt + 710).toNat := by omega
          have hn_233 : (x1.toInt + 43).toNat ≠ (x1.toInt + (A_33 40 (x1.toInt + 43).toNat).toInt + 650).toNat := by omega
          have ev_234 : A_224 40 (x1.toInt + 43).toNat = A_33 40 (x1.toInt + 43).toNat := by rw [hE_224, va_up_self, pk_un hn_230, hE_217, va_up_self, pk_un hn_231, hE_203, va_up_self, pk_un hn_232, hE_184, va_up_self, pk_un hn_233]
          rw [ev_234]
          refine lv_iconst (v := 1) hx hb dX12_doLay_205 (by decide) ?_
          refine lv_iadd hx hb dX12_doLay_206 ?_
          refine lv_topi (fun x_235 ex_235 => ?_)
          have hin_236 : vp_in x_226 (zn K (zr K a0 0)) := vp_in_iff.mpr (by rw [(hf_1.2.2 (by decide))]; exact hr_227.in)
          obtain ⟨f_235, l_235, u_235⟩ := z_add ex_235 rfl ti_1
          try replace f_235 : x_235.toInt = (A_33 40 (x1.toInt + 43).toNat).toInt + 1 := by omega
          clear l_235 u_235
          refine mst_40 C hM hs hP hS hf_1.1 hT hf_1.2.1 hin_236 (tp_43 hr_227 (show 0 ≤ x_235.toInt ∧ x_235.toInt ≤ 60 from by omega)) dX12_doLay_207 (fun A_237 H locs hE_237 hT hP hS => ?_)
          have ep_238 : x_226.toNatClampNeg = (x1.toInt + 43).toNat := z_posE hi_hr_227
          rw [ep_238] at hE_237
          have FA := frA FA (frAu hE_237) (by decide)
          have FC := fC.tr FC (fC.st (b := x1.toInt) (lo := 43) (hi := 43) hE_237 hb0.1 (by decide) hid_hr_227 hl_hr_227) (by decide)
          have WZ := wz.st WZ hE_237 (Or.inr (by omega))
          refine lv_aload_n hx hb dX12_doLay_208 rfl (lv_at hl 2 rfl) ?_
          refine mg_0 C hs hP ha0 hk0 wf_X12_8 dX12_doLay_209 ?_
          refine lv_iload_n hx hb dX12_doLay_212 rfl (lv_at hl 3 rfl) ?_
          refine lv_bipush (v := 14) hx hb dX12_doLay_213 (by decide) ?_
          refine lv_iadd hx hb dX12_doLay_215 ?_
          refine lv_topi (fun x_239 ex_239 => ?_)
          refine lv_iconst (v := 1) hx hb dX12_doLay_216 (by decide) ?_
          have hi_hr_240 : zEq x_239.toInt (x1.toInt + 14) := by
            obtain ⟨f_239, l_239, u_239⟩ := z_add ex_239 rfl ti_14
            try replace f_239 : x_239.toInt = x1.toInt + 14 := by omega
            clear l_239 u_239
            show x_239.toInt = (x1.toInt + 14)
            omega
          have hl_hr_240 : (14 : Int) ≤ 14 ∧ 14 ≤ (14 : Int) := by decide
          have hid_hr_240 : (x1.toInt + 14) = x1.toInt + (14) := by simp only [Int.add_assoc, Int.add_sub_assoc]
          have hr_240 := z_cell (lo := 10) (hi := 19) hp0 hi_hr_240 hid_hr_240 hl_hr_240 (by decide)
          replace hid_hr_240 : zEq (x1.toInt + 14) (x1.toInt + (14)) := hid_hr_240
          have hin_241 : vp_in x_239 (zn K (zr K a0 0)) := vp_in_iff.mpr (by rw [(hf_1.2.2 (by decide))]; exact hr_240.in)
          refine mst_40 C hM hs hP hS hf_1.1 hT hf_1.2.1 hin_241 (tp_10 hr_240) dX12_doLay_217 (fun A_242 H locs hE_242 hT hP hS => ?_)
          have ep_243 : x_239.toNatClampNeg = (x1.toInt + 14).toNat := z_posE hi_hr_240
          rw [ep_243] at hE_242
          have FA := frA FA (frAu hE_242) (by decide)
          have FC := fC.tr FC (fC.st (b := x1.toInt) (lo := 14) (hi := 14) hE_242 hb0.1 (by decide) hid_hr_240 hl_hr_240) (by decide)
          have WZ := wz.st WZ hE_242 (Or.inr (by omega))
          refine lv_aload_n hx hb dX12_doLay_218 rfl (lv_at hl 2 rfl) ?_
          refine mg_0 C hs hP ha0 hk0 wf_X12_8 dX12_doLay_219 ?_
          refine lv_iload_n hx hb dX12_doLay_222 rfl (lv_at hl 3 rfl) ?_
          refine lv_bipush (v := 27) hx hb dX12_doLay_223 (by decide) ?_
          refine lv_iadd hx hb dX12_doLay_225 ?_
          refine lv_topi (fun x_244 ex_244 => ?_)
          refine lv_aload_n hx hb dX12_doLay_226 rfl (lv_at hl 2 rfl) ?_
          refine mg_0 C hs hP ha0 hk0 wf_X12_8 dX12_doLay_227 ?_
          refine lv_iload_n hx hb dX12_doLay_230 rfl (lv_at hl 3 rfl) ?_
          refine lv_bipush (v := 26) hx hb dX12_doLay_231 (by decide) ?_
          refine lv_iadd hx hb dX12_doLay_233 ?_
          refine lv_topi (fun x_245 ex_245 => ?_)
          have hi_hr_246 : zEq x_245.toInt (x1.toInt + 26) := by
            obtain ⟨f_245, l_245, u_245⟩ := z_add ex_245 rfl ti_26
            try replace f_245 : x_245.toInt = x1.toInt + 26 := by omega
            clear l_245 u_245
            show x_245.toInt = (x1.toInt + 26)
            omega
          have hl_hr_246 : (26 : Int) ≤ 26 ∧ 26 ≤ (26 : Int) := by decide
          have hid_hr_246 : (x1.toInt + 26) = x1.toInt + (26) := by simp only [Int.add_assoc, Int.add_sub_assoc]
          have hr_246 := z_cell (lo := 26) (hi := 26) hp0 hi_hr_246 hid_hr_246 hl_hr_246 (by decide)
          replace hid_hr_246 : zEq (x1.toInt + 26) (x1.toInt + (26)) := hid_hr_246
          have hin_247 : vp_in x_245 (zn K (zr K a0 0)) := vp_in_iff.mpr (by rw [(hf_1.2.2 (by decide))]; exact hr_246.in)
          refine mld_40 C hs hP hf_1.1 hf_1.2.1 hin_247 dX12_doLay_234 ?_
          have ep_248 : x_245.toNatClampNeg = (x1.toInt + 26).toNat := z_posE hi_hr_246
          rw [ep_248]
          obtain ⟨f_245, l_245, u_245⟩ := z_add ex_245 rfl ti_26
          try replace f_245 : x_245.toInt = x1.toInt + 26 := by omega
          clear l_245 u_245
          obtain ⟨f_239, l_239, u_239⟩ := z_add ex_239 rfl ti_14
          try replace f_239 : x_239.toInt = x1.toInt + 14 := by omega
          clear l_239 u_239
          have hn_249 : (x1.toInt + 26).toNat ≠ (x1.toInt + 14).toNat := by omega
          have hn_250 : (x1.toInt + 26).toNat ≠ (x1.toInt + 43).toNat := by omega
          have hn_251 : (x1.toInt + 26).toNat ≠ (x1.toInt + (A_33 40 (x1.toInt + 43).toNat).toInt + 830).toNat := by omega
          have hn_252 : (x1.toInt + 26).toNat ≠ (x1.toInt + (A_33 40 (x1.toInt + 43).toNat).toInt + 770).toNat := by omega
          have hn_253 : (x1.toInt + 26).toNat ≠ (x1.toInt + (A_33 40 (x1.toInt + 43).toNat).toInt + 710).toNat := by omega
          have hn_254 : (x1.toInt + 26).toNat ≠ (x1.toInt + (A_33 40 (x1.toInt + 43).toNat).toInt + 650).toNat := by omega
          have ev_255 : A_242 40 (x1.toInt + 26).toNat = A_33 40 (x1.toInt + 26).toNat := by rw [hE_242, va_up_self, pk_un hn_249, hE_237, va_up_self, pk_un hn_250, hE_224, va_up_self, pk_un hn_251, hE_217, va_up_self, pk_un hn_252, hE_203, va_up_self, pk_un hn_253, hE_184, va_up_self, pk_un hn_254]
          have tv_256 := rv_26 hT hr_246
          rw [ep_248] at tv_256
          rw [ev_255] at tv_256
          rw [ev_255]
          refine lv_iadd hx hb dX12_doLay_235 ?_
          refine lv_topi (fun x_257 ex_257 => ?_)
          refine lv_iload hx hb dX12_doLay_236 (lv_at hl 1 rfl) ?_
          have hi_hr_258 : zEq x_257.toInt (x1.toInt + (A_33 40 (x1.toInt + 26).toNat).toInt + 27) := by
            obtain ⟨f_244, l_244, u_244⟩ := z_add ex_244 rfl ti_27
            try replace f_244 : x_244.toInt = x1.toInt + 27 := by omega
            clear l_244 u_244
            have g_259 := z_rng (A_33 40 (x1.toInt + 26).toNat)
            obtain ⟨f_257, l_257, u_257⟩ := z_add ex_257 rfl rfl
            try replace f_257 : x_257.toInt = x_244.toInt + (A_33 40 (x1.toInt + 26).toNat).toInt := by omega
            clear l_257 u_257
            show x_257.toInt = (x1.toInt + (A_33 40 (x1.toInt + 26).toNat).toInt + 27)
            omega
          have hl_hr_258 : 27 ≤ (A_33 40 (x1.toInt + 26).toNat).toInt + 27 ∧ (A_33 40 (x1.toInt + 26).toNat).toInt + 27 ≤ 30 := by
            have g_260 := z_rng (A_33 40 (x1.toInt + 26).toNat)
            omega
          have hid_hr_258 : (x1.toInt + (A_33 40 (x1.toInt + 26).toNat).toInt + 27) = x1.toInt + ((A_33 40 (x1.toInt + 26).toNat).toInt + 27) := by simp only [Int.add_assoc, Int.add_sub_assoc]
          have hr_258 := z_cell (lo := 27) (hi := 30) hp0 hi_hr_258 hid_hr_258 hl_hr_258 (by decide)
          replace hid_hr_258 : zEq (x1.toInt + (A_33 40 (x1.toInt + 26).toNat).toInt + 27) (x1.toInt + ((A_33 40 (x1.toInt + 26).toNat).toInt + 27)) := hid_hr_258
          have hin_261 : vp_in x_257 (zn K (zr K a0 0)) := vp_in_iff.mpr (by rw [(hf_1.2.2 (by decide))]; exact hr_258.in)
          have g_263 := z_rng (A 40 (x1.toInt + 60 * x3.toInt + x4.toInt + 230).toNat)
          refine mst_40 C hM hs hP hS hf_1.1 hT hf_1.2.1 hin_261 (tp_27 hr_258 (show 0 ≤ (A 40 (x1.toInt + 60 * x3.toInt + x4.toInt + 230).toNat).toInt ∧ (A 40 (x1.toInt + 60 * x3.toInt + x4.toInt + 230).toNat).toInt ≤ 59 from by omega)) dX12_doLay_238 (fun A_262 H locs hE_262 hT hP hS => ?_)
          have ep_264 : x_257.toNatClampNeg = (x1.toInt + (A_33 40 (x1.toInt + 26).toNat).toInt + 27).toNat := z_posE hi_hr_258
          rw [ep_264] at hE_262
          have FA := frA FA (frAu hE_262) (by decide)
          have FC := fC.tr FC (fC.st (b := x1.toInt) (lo := 27) (hi := 30) hE_262 hb0.1 (by decide) hid_hr_258 hl_hr_258) (by decide)
          have WZ := wz.st WZ hE_262 (Or.inr (by omega))
          refine lv_aload_n hx hb dX12_doLay_239 rfl (lv_at hl 2 rfl) ?_
          refine mg_0 C hs hP ha0 hk0 wf_X12_8 dX12_doLay_240 ?_
          refine lv_iload_n hx hb dX12_doLay_243 rfl (lv_at hl 3 rfl) ?_
          refine lv_bipush (v := 31) hx hb dX12_doLay_244 (by decide) ?_
          refine lv_iadd hx hb dX12_doLay_246 ?_
          refine lv_topi (fun x_265 ex_265 => ?_)
          refine lv_aload_n hx hb dX12_doLay_247 rfl (lv_at hl 2 rfl) ?_
          refine mg_0 C hs hP ha0 hk0 wf_X12_8 dX12_doLay_248 ?_
          refine lv_iload_n hx hb dX12_doLay_251 rfl (lv_at hl 3 rfl) ?_
          refine lv_bipush (v := 26) hx hb dX12_doLay_252 (by decide) ?_
          refine lv_iadd hx hb dX12_doLay_254 ?_
          refine lv_topi (fun x_266 ex_266 => ?_)
          have hi_hr_267 : zEq x_266.toInt (x1.toInt + 26) := by
            obtain ⟨f_266, l_266, u_266⟩ := z_add ex_266 rfl ti_26
            try replace f_266 : x_266.toInt = x1.toInt + 26 := by omega
            clear l_266 u_266
            show x_266.toInt = (x1.toInt + 26)
            omega
          have hl_hr_267 : (26 : Int) ≤ 26 ∧ 26 ≤ (26 : Int) := by decide
          have hid_hr_267 : (x1.toInt + 26) = x1.toInt + (26) := by simp only [Int.add_assoc, Int.add_sub_assoc]
          have hr_267 := z_cell (lo := 26) (hi := 26) hp0 hi_hr_267 hid_hr_267 hl_hr_267 (by decide)
          replace hid_hr_267 : zEq (x1.toInt + 26) (x1.toInt + (26)) := hid_hr_267
          have hin_268 : vp_in x_266 (zn K (zr K a0 0)) := vp_in_iff.mpr (by rw [(hf_1.2.2 (by decide))]; exact hr_267.in)
          refine mld_40 C hs hP hf_1.1 hf_1.2.1 hin_268 dX12_doLay_255 ?_
          have ep_269 : x_266.toNatClampNeg = (x1.toInt + 26).toNat := z_posE hi_hr_267
          rw [ep_269]
          obtain ⟨f_266, l_266, u_266⟩ := z_add ex_266 rfl ti_26
          try replace f_266 : x_266.toInt = x1.toInt + 26 := by omega
          clear l_266 u_266
          obtain ⟨f_244, l_244, u_244⟩ := z_add ex_244 rfl ti_27
          try replace f_244 : x_244.toInt = x1.toInt + 27 := by omega
          clear l_244 u_244
          have g_271 := z_rng (A_33 40 (x1.toInt + 26).toNat)
          obtain ⟨f_257, l_257, u_257⟩ := z_add ex_257 rfl rfl
          try replace f_257 : x_257.toInt = x_244.toInt + (A_33 40 (x1.toInt + 26).toNat).toInt := by omega
          clear l_257 u_257
          have hn_270 : (x1.toInt + 26).toNat ≠ (x1.toInt + (A_33 40 (x1.toInt + 26).toNat).toInt + 27).toNat := by omega
          have hn_272 : (x1.toInt + 26).toNat ≠ (x1.toInt + 14).toNat := by omega
          have hn_273 : (x1.toInt + 26).toNat ≠ (x1.toInt + 43).toNat := by omega
          have hn_274 : (x1.toInt + 26).toNat ≠ (x1.toInt + (A_33 40 (x1.toInt + 43).toNat).toInt + 830).toNat := by omega
          have hn_275 : (x1.toInt + 26).toNat ≠ (x1.toInt + (A_33 40 (x1.toInt + 43).toNat).toInt + 770).toNat := by omega
          have hn_276 : (x1.toInt + 26).toNat ≠ (x1.toInt + (A_33 40 (x1.toInt + 43).toNat).toInt + 710).toNat := by omega
          have hn_277 : (x1.toInt + 26).toNat ≠ (x1.toInt + (A_33 40 (x1.toInt + 43).toNat).toInt + 650).toNat := by omega
          have ev_278 : A_262 40 (x1.toInt + 26).toNat = A_33 40 (x1.toInt + 26).toNat := by rw [hE_262, va_up_self, pk_un hn_270, hE_242, va_up_self, pk_un hn_272, hE_237, va_up_self, pk_un hn_273, hE_224, va_up_self, pk_un hn_274, hE_217, va_up_self, pk_un hn_275, hE_203, va_up_self, pk_un hn_276, hE_184, va_up_self, pk_un hn_277]
          rw [ev_278]
          refine lv_iadd hx hb dX12_doLay_256 ?_
          refine lv_topi (fun x_279 ex_279 => ?_)
          refine lv_iload_n hx hb dX12_doLay_257 rfl (lv_at hl 5 rfl) ?_
          have hi_hr_280 : zEq x_279.toInt (x1.toInt + (A_33 40 (x1.toInt + 26).toNat).toInt + 31) := by
            obtain ⟨f_265, l_265, u_265⟩ := z_add ex_265 rfl ti_31
            try replace f_265 : x_265.toInt = x1.toInt + 31 := by omega
            clear l_265 u_265
            obtain ⟨f_279, l_279, u_279⟩ := z_add ex_279 rfl rfl
            try replace f_279 : x_279.toInt = x_265.toInt + (A_33 40 (x1.toInt + 26).toNat).toInt := by omega
            clear l_279 u_279
            show x_279.toInt = (x1.toInt + (A_33 40 (x1.toInt + 26).toNat).toInt + 31)
            omega
          have hl_hr_280 : 31 ≤ (A_33 40 (x1.toInt + 26).toNat).toInt + 31 ∧ (A_33 40 (x1.toInt + 26).toNat).toInt + 31 ≤ 34 := by
            omega
          have hid_hr_280 : (x1.toInt + (A_33 40 (x1.toInt + 26).toNat).toInt + 31) = x1.toInt + ((A_33 40 (x1.toInt + 26).toNat).toInt + 31) := by simp only [Int.add_assoc, Int.add_sub_assoc]
          have hr_280 := z_cell (lo := 31) (hi := 34) hp0 hi_hr_280 hid_hr_280 hl_hr_280 (by decide)
          replace hid_hr_280 : zEq (x1.toInt + (A_33 40 (x1.toInt + 26).toNat).toInt + 31) (x1.toInt + ((A_33 40 (x1.toInt + 26).toNat).toInt + 31)) := hid_hr_280
          have hin_281 : vp_in x_279 (zn K (zr K a0 0)) := vp_in_iff.mpr (by rw [(hf_1.2.2 (by decide))]; exact hr_280.in)
          have g_283 := z_rng x3
          refine mst_40 C hM hs hP hS hf_1.1 hT hf_1.2.1 hin_281 (tp_31 hr_280 (show 0 ≤ x3.toInt ∧ x3.toInt ≤ 3 from by omega)) dX12_doLay_258 (fun A_282 H locs hE_282 hT hP hS => ?_)
          have ep_284 : x_279.toNatClampNeg = (x1.toInt + (A_33 40 (x1.toInt + 26).toNat).toInt + 31).toNat := z_posE hi_hr_280
          rw [ep_284] at hE_282
          have FA := frA FA (frAu hE_282) (by decide)
          have FC := fC.tr FC (fC.st (b := x1.toInt) (lo := 31) (hi := 34) hE_282 hb0.1 (by decide) hid_hr_280 hl_hr_280) (by decide)
          have WZ := wz.st WZ hE_282 (Or.inr (by omega))
          refine lv_aload_n hx hb dX12_doLay_259 rfl (lv_at hl 2 rfl) ?_
          refine mg_0 C hs hP ha0 hk0 wf_X12_8 dX12_doLay_260 ?_
          refine lv_iload_n hx hb dX12_doLay_263 rfl (lv_at hl 3 rfl) ?_
          refine lv_bipush (v := 26) hx hb dX12_doLay_264 (by decide) ?_
          refine lv_iadd hx hb dX12_doLay_266 ?_
          refine lv_topi (fun x_285 ex_285 => ?_)
          refine lv_dup2_11 hx hb dX12_doLay_267 rfl rfl ?_
          have hi_hr_286 : zEq x_285.toInt (x1.toInt + 26) := by
            obtain ⟨f_285, l_285, u_285⟩ := z_add ex_285 rfl ti_26
            try replace f_285 : x_285.toInt = x1.toInt + 26 := by omega
            clear l_285 u_285
            show x_285.toInt = (x1.toInt + 26)
            omega
          have hl_hr_286 : (26 : Int) ≤ 26 ∧ 26 ≤ (26 : Int) := by decide
          have hid_hr_286 : (x1.toInt + 26) = x1.toInt + (26) := by simp only [Int.add_assoc, Int.add_sub_assoc]
          have hr_286 := z_cell (lo := 26) (hi := 26) hp0 hi_hr_286 hid_hr_286 hl_hr_286 (by decide)
          replace hid_hr_286 : zEq (x1.toInt + 26) (x1.toInt + (26)) := hid_hr_286
          have hin_287 : vp_in x_285 (zn K (zr K a0 0)) := vp_in_iff.mpr (by rw [(hf_1.2.2 (by decide))]; exact hr_286.in)
          refine mld_40 C hs hP hf_1.1 hf_1.2.1 hin_287 dX12_doLay_268 ?_
          have ep_288 : x_285.toNatClampNeg = (x1.toInt + 26).toNat := z_posE hi_hr_286
          rw [ep_288]
          obtain ⟨f_285, l_285, u_285⟩ := z_add ex_285 rfl ti_26
          try replace f_285 : x_285.toInt = x1.toInt + 26 := by omega
          clear l_285 u_285
          obtain ⟨f_265, l_265, u_265⟩ := z_add ex_265 rfl ti_31
          try replace f_265 : x_265.toInt = x1.toInt + 31 := by omega
          clear l_265 u_265
          obtain ⟨f_279, l_279, u_279⟩ := z_add ex_279 rfl rfl
          try replace f_279 : x_279.toInt = x_265.toInt + (A_33 40 (x1.toInt + 26).toNat).toInt := by omega
          clear l_279 u_279
          have hn_289 : (x1.toInt + 26).toNat ≠ (x1.toInt + (A_33 40 (x1.toInt + 26).toNat).toInt + 31).toNat := by omega
          have hn_290 : (x1.toInt + 26).toNat ≠ (x1.toInt + (A_33 40 (x1.toInt + 26).toNat).toInt + 27).toNat := by omega
          have hn_291 : (x1.toInt + 26).toNat ≠ (x1.toInt + 14).toNat := by omega
          have hn_292 : (x1.toInt + 26).toNat ≠ (x1.toInt + 43).toNat := by omega
          have hn_293 : (x1.toInt + 26).toNat ≠ (x1.toInt + (A_33 40 (x1.toInt + 43).toNat).toInt + 830).toNat := by omega
          have hn_294 : (x1.toInt + 26).toNat ≠ (x1.toInt + (A_33 40 (x1.toInt + 43).toNat).toInt + 770).toNat := by omega
          have hn_295 : (x1.toInt + 26).toNat ≠ (x1.toInt + (A_33 40 (x1.toInt + 43).toNat).toInt + 710).toNat := by omega
          have hn_296 : (x1.toInt + 26).toNat ≠ (x1.toInt + (A_33 40 (x1.toInt + 43).toNat).toInt + 650).toNat := by omega
          have ev_297 : A_282 40 (x1.toInt + 26).toNat = A_33 40 (x1.toInt + 26).toNat := by rw [hE_282, va_up_self, pk_un hn_289, hE_262, va_up_self, pk_un hn_290, hE_242, va_up_self, pk_un hn_291, hE_237, va_up_self, pk_un hn_292, hE_224, va_up_self, pk_un hn_293, hE_217, va_up_self, pk_un hn_294, hE_203, va_up_self, pk_un hn_295, hE_184, va_up_self, pk_un hn_296]
          rw [ev_297]
          refine lv_iconst (v := 1) hx hb dX12_doLay_269 (by decide) ?_
          refine lv_iadd hx hb dX12_doLay_270 ?_
          refine lv_topi (fun x_298 ex_298 => ?_)
          have hin_299 : vp_in x_285 (zn K (zr K a0 0)) := vp_in_iff.mpr (by rw [(hf_1.2.2 (by decide))]; exact hr_286.in)
          obtain ⟨f_298, l_298, u_298⟩ := z_add ex_298 rfl ti_1
          try replace f_298 : x_298.toInt = (A_33 40 (x1.toInt + 26).toNat).toInt + 1 := by omega
          clear l_298 u_298
          refine mst_40 C hM hs hP hS hf_1.1 hT hf_1.2.1 hin_299 (tp_26 hr_286 (show 0 ≤ x_298.toInt ∧ x_298.toInt ≤ 4 from by omega)) dX12_doLay_271 (fun A_300 H locs hE_300 hT hP hS => ?_)
          have ep_301 : x_285.toNatClampNeg = (x1.toInt + 26).toNat := z_posE hi_hr_286
          rw [ep_301] at hE_300
          have FA := frA FA (frAu hE_300) (by decide)
          have FC := fC.tr FC (fC.st (b := x1.toInt) (lo := 26) (hi := 26) hE_300 hb0.1 (by decide) hid_hr_286 hl_hr_286) (by decide)
          have WZ := wz.st WZ hE_300 (Or.inr (by omega))
          refine lv_aload_n hx hb dX12_doLay_272 rfl (lv_at hl 2 rfl) ?_
          refine mg_0 C hs hP ha0 hk0 wf_X12_8 dX12_doLay_273 ?_
          refine lv_iload_n hx hb dX12_doLay_276 rfl (lv_at hl 3 rfl) ?_
          refine lv_bipush (v := 110) hx hb dX12_doLay_277 (by decide) ?_
          refine lv_iadd hx hb dX12_doLay_279 ?_
          refine lv_topi (fun x_302 ex_302 => ?_)
          refine lv_iload hx hb dX12_doLay_280 (lv_at hl 1 rfl) ?_
          refine lv_iadd hx hb dX12_doLay_282 ?_
          refine lv_topi (fun x_303 ex_303 => ?_)
          refine lv_iconst (v := 5) hx hb dX12_doLay_283 (by decide) ?_
          have hi_hr_304 : zEq x_303.toInt (x1.toInt + (A 40 (x1.toInt + 60 * x3.toInt + x4.toInt + 230).toNat).toInt + 110) := by
            obtain ⟨f_302, l_302, u_302⟩ := z_add ex_302 rfl ti_110
            try replace f_302 : x_302.toInt = x1.toInt + 110 := by omega
            clear l_302 u_302
            obtain ⟨f_303, l_303, u_303⟩ := z_add ex_303 rfl rfl
            try replace f_303 : x_303.toInt = x_302.toInt + (A 40 (x1.toInt + 60 * x3.toInt + x4.toInt + 230).toNat).toInt := by omega
            clear l_303 u_303
            show x_303.toInt = (x1.toInt + (A 40 (x1.toInt + 60 * x3.toInt + x4.toInt + 230).toNat).toInt + 110)
            omega
          have hl_hr_304 : 110 ≤ (A 40 (x1.toInt + 60 * x3.toInt + x4.toInt + 230).toNat).toInt + 110 ∧ (A 40 (x1.toInt + 60 * x3.toInt + x4.toInt + 230).toNat).toInt + 110 ≤ 169 := by
            omega
          have hid_hr_304 : (x1.toInt + (A 40 (x1.toInt + 60 * x3.toInt + x4.toInt + 230).toNat).toInt + 110) = x1.toInt + ((A 40 (x1.toInt + 60 * x3.toInt + x4.toInt + 230).toNat).toInt + 110) := by simp only [Int.add_assoc, Int.add_sub_assoc]
          have hr_304 := z_cell (lo := 45) (hi := 169) hp0 hi_hr_304 hid_hr_304 hl_hr_304 (by decide)
          replace hid_hr_304 : zEq (x1.toInt + (A 40 (x1.toInt + 60 * x3.toInt + x4.toInt + 230).toNat).toInt + 110) (x1.toInt + ((A 40 (x1.toInt + 60 * x3.toInt + x4.toInt + 230).toNat).toInt + 110)) := hid_hr_304
          have hin_305 : vp_in x_303 (zn K (zr K a0 0)) := vp_in_iff.mpr (by rw [(hf_1.2.2 (by decide))]; exact hr_304.in)
          refine mst_40 C hM hs hP hS hf_1.1 hT hf_1.2.1 hin_305 (tp_45 hr_304) dX12_doLay_284 (fun A_306 H locs hE_306 hT hP hS => ?_)
          have ep_307 : x_303.toNatClampNeg = (x1.toInt + (A 40 (x1.toInt + 60 * x3.toInt + x4.toInt + 230).toNat).toInt + 110).toNat := z_posE hi_hr_304
          rw [ep_307] at hE_306
          have FA := frA FA (frAu hE_306) (by decide)
          have FC := fC.tr FC (fC.st (b := x1.toInt) (lo := 110) (hi := 169) hE_306 hb0.1 (by decide) hid_hr_304 hl_hr_304) (by decide)
          have WZ := wz.st WZ hE_306 (Or.inl (by rw [ti_5]; decide))
          refine lv_aload_n hx hb dX12_doLay_285 rfl (lv_at hl 2 rfl) ?_
          refine lv_iload_n hx hb dX12_doLay_286 rfl (lv_at hl 3 rfl) ?_
          refine lv_iload_n hx hb dX12_doLay_287 rfl (lv_at hl 5 rfl) ?_
          refine lv_aload_n hx hb dX12_doLay_288 rfl (lv_at hl 2 rfl) ?_
          refine lv_iload_n hx hb dX12_doLay_289 rfl (lv_at hl 3 rfl) ?_
          refine lv_iload hx hb dX12_doLay_290 (lv_at hl 1 rfl) ?_
          have hq_308 : 0 ≤ (A 40 (x1.toInt + 60 * x3.toInt + x4.toInt + 230).toNat).toInt ∧ (A 40 (x1.toInt + 60 * x3.toInt + x4.toInt + 230).toNat).toInt ≤ 59 := by (first | assumption | omega | (intros; omega))
          refine zcS (zrV (As := [.int x1, .int (A 40 (x1.toInt + 60 * x3.toInt + x4.toInt + 230).toNat)]) (b := a0) (rest := [.int x3, .int x1, .ref a0]) C hs hP hS (c_X12_colour l D K hM f A_306 hT a0 ha0 hk0 x1 (A 40 (x1.toInt + 60 * x3.toInt + x4.toInt + 230).toNat) hp0 hq_308) m_X12_colour wm_X12_120 (zrecv hs hP ha0 (zF_11 hk0) rfl) ⟨by decide, by decide⟩ hl.1 (Nat.le_of_ble_eq_true rfl) dX12_doLay_292) (fun x_309 p_309 => ?_)
          have pp_309 : x_309 = mcol (A_306 40) x1 (A 40 (x1.toInt + 60 * x3.toInt + x4.toInt + 230).toNat) := p_309
          have pq_309 := congrArg Int32.toInt pp_309
          have g_310 := z_rng x_309
          have hq_311 : 0 ≤ x3.toInt ∧ x3.toInt ≤ 3 := by (first | assumption | omega | (intros; omega))
          refine mcV (zrV (As := [.int x1, .int x3, .int x_309]) (b := a0) (rest := []) C hs hP hS (c_X12_showFound l D K hM f A_306 hT a0 ha0 hk0 x1 x3 x_309 hp0 hq_311) m_X12_showFound wm_X12_214 (zrecv hs hP ha0 (zF_11 hk0) rfl) ⟨by decide, by decide⟩ hl.1 (Nat.le_of_ble_eq_true rfl) dX12_doLay_295) hS (fun f_312 A_312 H locs p_312 hP hS => ?_)
          obtain ⟨hT, hA_312, hF_312, hC_312, hW_312⟩ := p_312
          have hff_312 : f = f_312 := funext (fun k9 => (hF_312 k9 List.not_mem_nil).symm)
          subst hff_312
          have FA := frA FA hA_312 (by decide)
          have FF := frF FF hF_312 (by decide)
          have FC := fC.tr FC hC_312 (by decide)
          have WZ := wz.tr WZ hW_312
          refine lv_aload_n hx hb dX12_doLay_298 rfl (lv_at hl 2 rfl) ?_
          refine mg_0 C hs hP ha0 hk0 wf_X12_8 dX12_doLay_299 ?_
          refine lv_iload_n hx hb dX12_doLay_302 rfl (lv_at hl 3 rfl) ?_
          refine lv_bipush (v := 9) hx hb dX12_doLay_303 (by decide) ?_
          refine lv_iadd hx hb dX12_doLay_305 ?_
          refine lv_topi (fun x_313 ex_313 => ?_)
          refine lv_aload_n hx hb dX12_doLay_306 rfl (lv_at hl 2 rfl) ?_
          refine lv_iload_n hx hb dX12_doLay_307 rfl (lv_at hl 3 rfl) ?_
          refine lv_iload_n hx hb dX12_doLay_308 rfl (lv_at hl 5 rfl) ?_
          refine lv_iconst (v := 1) hx hb dX12_doLay_309 (by decide) ?_
          refine lv_iadd hx hb dX12_doLay_310 ?_
          refine lv_topi (fun x_314 ex_314 => ?_)
          refine lv_iconst (v := 4) hx hb dX12_doLay_311 (by decide) ?_
          refine lv_irem hx hb dX12_doLay_312 (by decide) ?_
          refine lv_topi (fun x_315 ex_315 => ?_)
          obtain ⟨f_314, l_314, u_314⟩ := z_add ex_314 rfl ti_1
          try replace f_314 : x_314.toInt = x3.toInt + 1 := by omega
          clear l_314 u_314
          have f_315 := z_rem ex_315 rfl ti_4 (by decide)
          have hq_316 : 0 ≤ x_315.toInt ∧ x_315.toInt ≤ 4 := by (first | assumption | omega | (intros; omega))
          refine zcS (zrV (As := [.int x1, .int x_315]) (b := a0) (rest := [.int x_313, .ref (zr K a0 0)]) C hs hP hS (c_X12_seatFrom l D K hM f A_312 hT a0 ha0 hk0 x1 x_315 hp0 hq_316) m_X12_seatFrom wm_X12_162 (zrecv hs hP ha0 (zF_11 hk0) rfl) ⟨by decide, by decide⟩ hl.1 (Nat.le_of_ble_eq_true rfl) dX12_doLay_313) (fun x_317 p_317 => ?_)
          have pp_317 : (x_317.toInt = -1 ∨ (0 ≤ x_317.toInt ∧ x_317.toInt ≤ 3 ∧ 1 ≤ (A_312 40 (x1.toInt + x_317.toInt + 22).toNat).toInt ∧ nL (A_312 40) x1.toInt x_317.toInt (A_312 40 (x1.toInt + 26).toNat).toInt)) := p_317
          have tRs := hT.row hp0
          have FCs := FC
          have WZs := WZ
          have rq_318 : ∀ j : Int, x1.toInt + 22 ≤ j → j ≤ x1.toInt + 25 → A_312 40 j.toNat = A_33 40 j.toNat := fun j h1 h2 => by rw [hC_312.ar hb0.1 (lo := 22) (hi := 25) (by decide) j (by decide) (by omega) (by omega), hE_306, va_up_self, pk_un (show j.toNat ≠ (x1.toInt + (A 40 (x1.toInt + 60 * x3.toInt + x4.toInt + 230).toNat).toInt + 110).toNat by omega), hE_300, va_up_self, pk_un (show j.toNat ≠ (x1.toInt + 26).toNat by omega), hE_282, va_up_self, pk_un (show j.toNat ≠ (x1.toInt + (A_33 40 (x1.toInt + 26).toNat).toInt + 31).toNat by omega), hE_262, va_up_self, pk_un (show j.toNat ≠ (x1.toInt + (A_33 40 (x1.toInt + 26).toNat).toInt + 27).toNat by omega), hE_242, va_up_self, pk_un (show j.toNat ≠ (x1.toInt + 14).toNat by omega), hE_237, va_up_self, pk_un (show j.toNat ≠ (x1.toInt + 43).toNat by omega), hE_224, va_up_self, pk_un (show j.toNat ≠ (x1.toInt + (A_33 40 (x1.toInt + 43).toNat).toInt + 830).toNat by omega), hE_217, va_up_self, pk_un (show j.toNat ≠ (x1.toInt + (A_33 40 (x1.toInt + 43).toNat).toInt + 770).toNat by omega), hE_203, va_up_self, pk_un (show j.toNat ≠ (x1.toInt + (A_33 40 (x1.toInt + 43).toNat).toInt + 710).toNat by omega), hE_184, va_up_self, pk_un (show j.toNat ≠ (x1.toInt + (A_33 40 (x1.toInt + 43).toNat).toInt + 650).toNat by omega)]
          obtain ⟨f_302, l_302, u_302⟩ := z_add ex_302 rfl ti_110
          try replace f_302 : x_302.toInt = x1.toInt + 110 := by omega
          clear l_302 u_302
          obtain ⟨f_303, l_303, u_303⟩ := z_add ex_303 rfl rfl
          try replace f_303 : x_303.toInt = x_302.toInt + (A 40 (x1.toInt + 60 * x3.toInt + x4.toInt + 230).toNat).toInt := by omega
          clear l_303 u_303
          have es_319 : A_312 40 (x1.toInt + 26).toNat = x_298 := by rw [hC_312 (x1.toInt + 26) (by omega) (by simp only [List.mem_cons, List.not_mem_nil, or_false, forall_eq_or_imp, forall_eq]; omega), hE_306, va_up_self, pk_un (show (x1.toInt + 26).toNat ≠ (x1.toInt + (A 40 (x1.toInt + 60 * x3.toInt + x4.toInt + 230).toNat).toInt + 110).toNat by omega), hE_300, va_up_self, pk_us]
          have es_320 : A_312 40 (x1.toInt + 20).toNat = A_33 40 (x1.toInt + 20).toNat := by rw [hC_312 (x1.toInt + 20) (by omega) (by simp only [List.mem_cons, List.not_mem_nil, or_false, forall_eq_or_imp, forall_eq]; omega), hE_306, va_up_self, pk_un (show (x1.toInt + 20).toNat ≠ (x1.toInt + (A 40 (x1.toInt + 60 * x3.toInt + x4.toInt + 230).toNat).toInt + 110).toNat by omega), hE_300, va_up_self, pk_un (show (x1.toInt + 20).toNat ≠ (x1.toInt + 26).toNat by omega), hE_282, va_up_self, pk_un (show (x1.toInt + 20).toNat ≠ (x1.toInt + (A_33 40 (x1.toInt + 26).toNat).toInt + 31).toNat by omega), hE_262, va_up_self, pk_un (show (x1.toInt + 20).toNat ≠ (x1.toInt + (A_33 40 (x1.toInt + 26).toNat).toInt + 27).toNat by omega), hE_242, va_up_self, pk_un (show (x1.toInt + 20).toNat ≠ (x1.toInt + 14).toNat by omega), hE_237, va_up_self, pk_un (show (x1.toInt + 20).toNat ≠ (x1.toInt + 43).toNat by omega), hE_224, va_up_self, pk_un (show (x1.toInt + 20).toNat ≠ (x1.toInt + (A_33 40 (x1.toInt + 43).toNat).toInt + 830).toNat by omega), hE_217, va_up_self, pk_un (show (x1.toInt + 20).toNat ≠ (x1.toInt + (A_33 40 (x1.toInt + 43).toNat).toInt + 770).toNat by omega), hE_203, va_up_self, pk_un (show (x1.toInt + 20).toNat ≠ (x1.toInt + (A_33 40 (x1.toInt + 43).toNat).toInt + 710).toNat by omega), hE_184, va_up_self, pk_un (show (x1.toInt + 20).toNat ≠ (x1.toInt + (A_33 40 (x1.toInt + 43).toNat).toInt + 650).toNat by omega)]
          have es_321 : A_312 40 (x1.toInt + 43).toNat = x_235 := by rw [hC_312 (x1.toInt + 43) (by omega) (by simp only [List.mem_cons, List.not_mem_nil, or_false, forall_eq_or_imp, forall_eq]; omega), hE_306, va_up_self, pk_un (show (x1.toInt + 43).toNat ≠ (x1.toInt + (A 40 (x1.toInt + 60 * x3.toInt + x4.toInt + 230).toNat).toInt + 110).toNat by omega), hE_300, va_up_self, pk_un (show (x1.toInt + 43).toNat ≠ (x1.toInt + 26).toNat by omega), hE_282, va_up_self, pk_un (show (x1.toInt + 43).toNat ≠ (x1.toInt + (A_33 40 (x1.toInt + 26).toNat).toInt + 31).toNat by omega), hE_262, va_up_self, pk_un (show (x1.toInt + 43).toNat ≠ (x1.toInt + (A_33 40 (x1.toInt + 26).toNat).toInt + 27).toNat by omega), hE_242, va_up_self, pk_un (show (x1.toInt + 43).toNat ≠ (x1.toInt + 14).toNat by omega), hE_237, va_up_self, pk_us]
          have rKs := hp3.2.2.fw hb0.1 FC WZ tR0.p1.2 tR0.p21.2 (by decide) (by decide) (by decide)
          have e21s := FC.ar hb0.1 (lo := 21) (hi := 21) (by decide) (x1.toInt + 21) (by decide) (by omega) (by omega)
          have els : ∀ i : Int, 0 ≤ i → i < (A 40 (x1.toInt + 26).toNat).toInt → A_312 40 (x1.toInt + i + 31).toNat = A 40 (x1.toInt + i + 31).toNat := fun i h1 h2 => by
            rw [hC_312.ar hb0.1 (lo := 31) (hi := 34) (by decide) (x1.toInt + i + 31) (by decide) (by omega) (by omega), hE_306, va_up_self, pk_un (show (x1.toInt + i + 31).toNat ≠ (x1.toInt + (A 40 (x1.toInt + 60 * x3.toInt + x4.toInt + 230).toNat).toInt + 110).toNat by omega), hE_300, va_up_self, pk_un (show (x1.toInt + i + 31).toNat ≠ (x1.toInt + 26).toNat by omega), hE_282, va_up_self, pk_un (show (x1.toInt + i + 31).toNat ≠ (x1.toInt + (A_33 40 (x1.toInt + 26).toNat).toInt + 31).toNat by omega), hE_262, va_up_self, pk_un (show (x1.toInt + i + 31).toNat ≠ (x1.toInt + (A_33 40 (x1.toInt + 26).toNat).toInt + 27).toNat by omega), hE_242, va_up_self, pk_un (show (x1.toInt + i + 31).toNat ≠ (x1.toInt + 14).toNat by omega), hE_237, va_up_self, pk_un (show (x1.toInt + i + 31).toNat ≠ (x1.toInt + 43).toNat by omega), hE_224, va_up_self, pk_un (show (x1.toInt + i + 31).toNat ≠ (x1.toInt + (A_33 40 (x1.toInt + 43).toNat).toInt + 830).toNat by omega), hE_217, va_up_self, pk_un (show (x1.toInt + i + 31).toNat ≠ (x1.toInt + (A_33 40 (x1.toInt + 43).toNat).toInt + 770).toNat by omega), hE_203, va_up_self, pk_un (show (x1.toInt + i + 31).toNat ≠ (x1.toInt + (A_33 40 (x1.toInt + 43).toNat).toInt + 710).toNat by omega), hE_184, va_up_self, pk_un (show (x1.toInt + i + 31).toNat ≠ (x1.toInt + (A_33 40 (x1.toInt + 43).toNat).toInt + 650).toNat by omega)]
            exact iv_33_1.ar hb0.1 (lo := 31) (hi := 34) (by decide) (x1.toInt + i + 31) (by decide) (by omega) (by omega)
          have ens : (A_312 40 (x1.toInt + (A 40 (x1.toInt + 26).toNat).toInt + 31).toNat).toInt = x3.toInt := by
            rw [← e26q]
            rw [hC_312.ar hb0.1 (lo := 31) (hi := 34) (by decide) (x1.toInt + (A_33 40 (x1.toInt + 26).toNat).toInt + 31) (by decide) (by omega) (by omega), hE_306, va_up_self, pk_un (show (x1.toInt + (A_33 40 (x1.toInt + 26).toNat).toInt + 31).toNat ≠ (x1.toInt + (A 40 (x1.toInt + 60 * x3.toInt + x4.toInt + 230).toNat).toInt + 110).toNat by omega), hE_300, va_up_self, pk_un (show (x1.toInt + (A_33 40 (x1.toInt + 26).toNat).toInt + 31).toNat ≠ (x1.toInt + 26).toNat by omega), hE_282, va_up_self, pk_us]
          have rPs := rowP.dl (C1 := A_312 40) hp3 tR0 hp1 hp4 (by omega) (by unfold hd; rw [rq_318 (x1.toInt + x3.toInt + 22) (by omega) (by omega)]; exact iv_33_2) (fun q9 h1 h2 h3 => by unfold hd; rw [rq_318 (x1.toInt + q9 + 22) (by omega) (by omega), iv_33_3 q9 h1 h2 h3]) (by rw [e21s]) (by rw [es_320, e20q]) (by rw [es_319]; omega) (by rw [es_321]; omega) els ens rKs
          have hi_hr_322 : zEq x_313.toInt (x1.toInt + 9) := by
            obtain ⟨f_313, l_313, u_313⟩ := z_add ex_313 rfl ti_9
            try replace f_313 : x_313.toInt = x1.toInt + 9 := by omega
            clear l_313 u_313
            show x_313.toInt = (x1.toInt + 9)
            omega
          have hl_hr_322 : (9 : Int) ≤ 9 ∧ 9 ≤ (9 : Int) := by decide
          have hid_hr_322 : (x1.toInt + 9) = x1.toInt + (9) := by simp only [Int.add_assoc, Int.add_sub_assoc]
          have hr_322 := z_cell (lo := 9) (hi := 9) hp0 hi_hr_322 hid_hr_322 hl_hr_322 (by decide)
          replace hid_hr_322 : zEq (x1.toInt + 9) (x1.toInt + (9)) := hid_hr_322
          have hin_323 : vp_in x_313 (zn K (zr K a0 0)) := vp_in_iff.mpr (by rw [(hf_1.2.2 (by decide))]; exact hr_322.in)
          have g_325 := z_rng x_317
          refine mst_40 C hM hs hP hS hf_1.1 hT hf_1.2.1 hin_323 (tp_9 hr_322 (show -1 ≤ x_317.toInt ∧ x_317.toInt ≤ 3 from by omega)) dX12_doLay_316 (fun A_324 H locs hE_324 hT hP hS => ?_)
          have ep_326 : x_313.toNatClampNeg = (x1.toInt + 9).toNat := z_posE hi_hr_322
          rw [ep_326] at hE_324
          have FA := frA FA (frAu hE_324) (by decide)
          have FC := fC.tr FC (fC.st (b := x1.toInt) (lo := 9) (hi := 9) hE_324 hb0.1 (by decide) hid_hr_322 hl_hr_322) (by decide)
          have WZ := wz.st WZ hE_324 (Or.inr (by omega))
          have hRN := rowN.nx rPs tRs hb0.1 hE_324 pp_317
          refine lv_aload_n hx hb dX12_doLay_317 rfl (lv_at hl 2 rfl) ?_
          refine mg_0 C hs hP ha0 hk0 wf_X12_8 dX12_doLay_318 ?_
          refine lv_iload_n hx hb dX12_doLay_321 rfl (lv_at hl 3 rfl) ?_
          refine lv_bipush (v := 9) hx hb dX12_doLay_322 (by decide) ?_
          refine lv_iadd hx hb dX12_doLay_324 ?_
          refine lv_topi (fun x_327 ex_327 => ?_)
          have hi_hr_328 : zEq x_327.toInt (x1.toInt + 9) := by
            obtain ⟨f_327, l_327, u_327⟩ := z_add ex_327 rfl ti_9
            try replace f_327 : x_327.toInt = x1.toInt + 9 := by omega
            clear l_327 u_327
            show x_327.toInt = (x1.toInt + 9)
            omega
          have hl_hr_328 : (9 : Int) ≤ 9 ∧ 9 ≤ (9 : Int) := by decide
          have hid_hr_328 : (x1.toInt + 9) = x1.toInt + (9) := by simp only [Int.add_assoc, Int.add_sub_assoc]
          have hr_328 := z_cell (lo := 9) (hi := 9) hp0 hi_hr_328 hid_hr_328 hl_hr_328 (by decide)
          replace hid_hr_328 : zEq (x1.toInt + 9) (x1.toInt + (9)) := hid_hr_328
          have hin_329 : vp_in x_327 (zn K (zr K a0 0)) := vp_in_iff.mpr (by rw [(hf_1.2.2 (by decide))]; exact hr_328.in)
          refine mld_40 C hs hP hf_1.1 hf_1.2.1 hin_329 dX12_doLay_325 ?_
          have ep_330 : x_327.toNatClampNeg = (x1.toInt + 9).toNat := z_posE hi_hr_328
          rw [ep_330]
          have ev_331 : A_324 40 (x1.toInt + 9).toNat = x_317 := by rw [hE_324, va_up_self, pk_us]
          have tv_332 := rv_9 hT hr_328
          rw [ep_330] at tv_332
          rw [ev_331] at tv_332
          rw [ev_331]
          refine lv_iconst (v := (-1)) hx hb dX12_doLay_326 (by decide) ?_
          refine bi_ne (tgt := 336) hx hb rfl ti_m1 dX12_doLay_327 (by decide) (fun c_333 => ?_) (fun c_333 => ?_)
          · skip
            exact maV hQ hx hb hr hlk hP hS ⟨hT, FA, FF, FC, WZ, ⟨by omega, by omega, by omega, by omega, fun h9 => by omega, hRN⟩⟩ dX12_doLay_336
          · skip
            refine lv_aload_n hx hb dX12_doLay_330 rfl (lv_at hl 2 rfl) ?_
            refine lv_iload_n hx hb dX12_doLay_331 rfl (lv_at hl 3 rfl) ?_
            refine lv_iload_n hx hb dX12_doLay_332 rfl (lv_at hl 4 rfl) ?_
            have g_334 := z_rng x2
            have hq_335 : rowP (A_324 40) x1.toInt := by exact hRN.1
            obtain ⟨f_313, l_313, u_313⟩ := z_add ex_313 rfl ti_9
            try replace f_313 : x_313.toInt = x1.toInt + 9 := by omega
            clear l_313 u_313
            have es_337 : A_324 40 (x1.toInt + 26).toNat = x_298 := by rw [hE_324, va_up_self, pk_un (show (x1.toInt + 26).toNat ≠ (x1.toInt + 9).toNat by omega), hC_312 (x1.toInt + 26) (by omega) (by simp only [List.mem_cons, List.not_mem_nil, or_false, forall_eq_or_imp, forall_eq]; omega), hE_306, va_up_self, pk_un (show (x1.toInt + 26).toNat ≠ (x1.toInt + (A 40 (x1.toInt + 60 * x3.toInt + x4.toInt + 230).toNat).toInt + 110).toNat by omega), hE_300, va_up_self, pk_us]
            have hq_336 : 1 ≤ (A_324 40 (x1.toInt + 26).toNat).toInt := by rw [es_337] <;> (first | assumption | omega | (intros; omega))
            have hq_338 : (f 11).toInt ≤ 1960000000 := by (first | assumption | omega | (intros; omega))
            have hq_339 : (f 9).toInt ≤ 1960000000 := by (first | assumption | omega | (intros; omega))
            refine mcV (zrV (As := [.int x1, .int x2]) (b := a0) (rest := []) C hs hP hS (c_X12_endTrick l D K hM f A_324 hT a0 ha0 hk0 x1 x2 hp0 hq_335 hq_336 hq_338 hq_339) m_X12_endTrick wm_X12_217 (zrecv hs hP ha0 (zF_11 hk0) rfl) ⟨by decide, by decide⟩ hl.1 (Nat.le_of_ble_eq_true rfl) dX12_doLay_333) hS (fun f_340 A_340 H locs p_340 hP hS => ?_)
            obtain ⟨hT, hA_340, hF_340, hC_340, hW_340, pp_340⟩ := p_340
            have pp_340 : (f 9).toInt ≤ (f_340 9).toInt ∧ (f_340 9).toInt ≤ (f 9).toInt + 2 ∧ (f 11).toInt ≤ (f_340 11).toInt ∧ (f_340 11).toInt ≤ (f 11).toInt + 13 ∧ ((f 12).toInt ≠ 0 → (f_340 11).toInt = (f 11).toInt) ∧ rowN (A_340 40) x1.toInt := pp_340
            have pp0_340 := pp_340
            have FA := frA FA hA_340 (by decide)
            have FF := frF FF hF_340 (by decide)
            have FC := fC.tr FC hC_340 (by decide)
            have WZ := wz.tr WZ hW_340
            have hRN := pp0_340.2.2.2.2.2
            exact maV hQ hx hb hr hlk hP hS ⟨hT, FA, FF, FC, WZ, ⟨by omega, by omega, by omega, by omega, fun h9 => by omega, hRN⟩⟩ dX12_doLay_336
      · skip
        refine lv_aload_n hx hb dX12_doLay_55 rfl (lv_at hl 2 rfl) ?_
        refine mg_0 C hs hP ha0 hk0 wf_X12_8 dX12_doLay_56 ?_
        refine lv_iload_n hx hb dX12_doLay_59 rfl (lv_at hl 3 rfl) ?_
        refine lv_sipush (v := 230) hx hb dX12_doLay_60 (by decide) ?_
        refine lv_iadd hx hb dX12_doLay_63 ?_
        refine lv_topi (fun x_341 ex_341 => ?_)
        refine lv_bipush (v := 60) hx hb dX12_doLay_64 (by decide) ?_
        refine lv_iload_n hx hb dX12_doLay_66 rfl (lv_at hl 5 rfl) ?_
        refine lv_imul hx hb dX12_doLay_67 ?_
        refine lv_topi (fun x_342 ex_342 => ?_)
        refine lv_iadd hx hb dX12_doLay_68 ?_
        refine lv_topi (fun x_343 ex_343 => ?_)
        refine lv_iload hx hb dX12_doLay_69 (lv_at hl 0 rfl) ?_
        refine lv_iadd hx hb dX12_doLay_71 ?_
        refine lv_topi (fun x_344 ex_344 => ?_)
        refine lv_aload_n hx hb dX12_doLay_72 rfl (lv_at hl 2 rfl) ?_
        refine mg_0 C hs hP ha0 hk0 wf_X12_8 dX12_doLay_73 ?_
        refine lv_iload_n hx hb dX12_doLay_76 rfl (lv_at hl 3 rfl) ?_
        refine lv_sipush (v := 230) hx hb dX12_doLay_77 (by decide) ?_
        refine lv_iadd hx hb dX12_doLay_80 ?_
        refine lv_topi (fun x_345 ex_345 => ?_)
        refine lv_bipush (v := 60) hx hb dX12_doLay_81 (by decide) ?_
        refine lv_iload_n hx hb dX12_doLay_83 rfl (lv_at hl 5 rfl) ?_
        refine lv_imul hx hb dX12_doLay_84 ?_
        refine lv_topi (fun x_346 ex_346 => ?_)
        refine lv_iadd hx hb dX12_doLay_85 ?_
        refine lv_topi (fun x_347 ex_347 => ?_)
        refine lv_iload hx hb dX12_doLay_86 (lv_at hl 0 rfl) ?_
        refine lv_iadd hx hb dX12_doLay_88 ?_
        refine lv_topi (fun x_348 ex_348 => ?_)
        refine lv_iconst (v := 1) hx hb dX12_doLay_89 (by decide) ?_
        refine lv_iadd hx hb dX12_doLay_90 ?_
        refine lv_topi (fun x_349 ex_349 => ?_)
        have hi_hr_350 : zEq x_349.toInt (x1.toInt + 60 * x3.toInt + y_31.toInt + 231) := by
          have g_351 := z_rng x1
          obtain ⟨f_345, l_345, u_345⟩ := z_add ex_345 rfl ti_230
          try replace f_345 : x_345.toInt = x1.toInt + 230 := by omega
          clear l_345 u_345
          have g_352 := z_rng x3
          obtain ⟨f_346, l_346, u_346⟩ := z_mul ex_346 ti_60 rfl
          try replace f_346 : x_346.toInt = 60 * x3.toInt := by omega
          clear l_346 u_346
          obtain ⟨f_347, l_347, u_347⟩ := z_add ex_347 rfl rfl
          try replace f_347 : x_347.toInt = x_345.toInt + x_346.toInt := by omega
          clear l_347 u_347
          have g_353 := z_rng y_31
          obtain ⟨f_348, l_348, u_348⟩ := z_add ex_348 rfl rfl
          try replace f_348 : x_348.toInt = x_347.toInt + y_31.toInt := by omega
          clear l_348 u_348
          obtain ⟨f_349, l_349, u_349⟩ := z_add ex_349 rfl ti_1
          try replace f_349 : x_349.toInt = x_348.toInt + 1 := by omega
          clear l_349 u_349
          show x_349.toInt = (x1.toInt + 60 * x3.toInt + y_31.toInt + 231)
          omega
        have hl_hr_350 : 230 ≤ 60 * x3.toInt + y_31.toInt + 231 ∧ 60 * x3.toInt + y_31.toInt + 231 ≤ 469 := by
          have g_354 := z_rng x1
          have g_355 := z_rng x3
          have g_356 := z_rng y_31
          omega
        have hid_hr_350 : (x1.toInt + 60 * x3.toInt + y_31.toInt + 231) = x1.toInt + (60 * x3.toInt + y_31.toInt + 231) := by simp only [Int.add_assoc, Int.add_sub_assoc]
        have hr_350 := z_cell (lo := 170) (hi := 469) hp0 hi_hr_350 hid_hr_350 hl_hr_350 (by decide)
        replace hid_hr_350 : zEq (x1.toInt + 60 * x3.toInt + y_31.toInt + 231) (x1.toInt + (60 * x3.toInt + y_31.toInt + 231)) := hid_hr_350
        have hin_357 : vp_in x_349 (zn K (zr K a0 0)) := vp_in_iff.mpr (by rw [(hf_1.2.2 (by decide))]; exact hr_350.in)
        refine mld_40 C hs hP hf_1.1 hf_1.2.1 hin_357 dX12_doLay_91 ?_
        have ep_358 : x_349.toNatClampNeg = (x1.toInt + 60 * x3.toInt + y_31.toInt + 231).toNat := z_posE hi_hr_350
        rw [ep_358]
        have tv_359 := rv_170 hT hr_350
        rw [ep_358] at tv_359
        have hi_hr_360 : zEq x_344.toInt (x1.toInt + 60 * x3.toInt + y_31.toInt + 230) := by
          have g_361 := z_rng x1
          obtain ⟨f_341, l_341, u_341⟩ := z_add ex_341 rfl ti_230
          try replace f_341 : x_341.toInt = x1.toInt + 230 := by omega
          clear l_341 u_341
          have g_362 := z_rng x3
          obtain ⟨f_342, l_342, u_342⟩ := z_mul ex_342 ti_60 rfl
          try replace f_342 : x_342.toInt = 60 * x3.toInt := by omega
          clear l_342 u_342
          obtain ⟨f_343, l_343, u_343⟩ := z_add ex_343 rfl rfl
          try replace f_343 : x_343.toInt = x_341.toInt + x_342.toInt := by omega
          clear l_343 u_343
          have g_363 := z_rng y_31
          obtain ⟨f_344, l_344, u_344⟩ := z_add ex_344 rfl rfl
          try replace f_344 : x_344.toInt = x_343.toInt + y_31.toInt := by omega
          clear l_344 u_344
          show x_344.toInt = (x1.toInt + 60 * x3.toInt + y_31.toInt + 230)
          omega
        have hl_hr_360 : 230 ≤ 60 * x3.toInt + y_31.toInt + 230 ∧ 60 * x3.toInt + y_31.toInt + 230 ≤ 469 := by
          have g_364 := z_rng x1
          have g_365 := z_rng x3
          have g_366 := z_rng y_31
          omega
        have hid_hr_360 : (x1.toInt + 60 * x3.toInt + y_31.toInt + 230) = x1.toInt + (60 * x3.toInt + y_31.toInt + 230) := by simp only [Int.add_assoc, Int.add_sub_assoc]
        have hr_360 := z_cell (lo := 170) (hi := 469) hp0 hi_hr_360 hid_hr_360 hl_hr_360 (by decide)
        replace hid_hr_360 : zEq (x1.toInt + 60 * x3.toInt + y_31.toInt + 230) (x1.toInt + (60 * x3.toInt + y_31.toInt + 230)) := hid_hr_360
        have hin_367 : vp_in x_344 (zn K (zr K a0 0)) := vp_in_iff.mpr (by rw [(hf_1.2.2 (by decide))]; exact hr_360.in)
        have g_369 := z_rng (A_33 40 (x1.toInt + 60 * x3.toInt + y_31.toInt + 231).toNat)
        refine mst_40 C hM hs hP hS hf_1.1 hT hf_1.2.1 hin_367 (tp_170 hr_360 (show 0 ≤ (A_33 40 (x1.toInt + 60 * x3.toInt + y_31.toInt + 231).toNat).toInt ∧ (A_33 40 (x1.toInt + 60 * x3.toInt + y_31.toInt + 231).toNat).toInt ≤ 59 from by omega)) dX12_doLay_92 (fun A_368 H locs hE_368 hT hP hS => ?_)
        have ep_370 : x_344.toNatClampNeg = (x1.toInt + 60 * x3.toInt + y_31.toInt + 230).toNat := z_posE hi_hr_360
        rw [ep_370] at hE_368
        have FA := frA FA (frAu hE_368) (by decide)
        have FC := fC.tr FC (fC.st (b := x1.toInt) (lo := 230) (hi := 469) hE_368 hb0.1 (by decide) hid_hr_360 hl_hr_360) (by decide)
        have WZ := wz.st WZ hE_368 (Or.inr (by omega))
        obtain ⟨x_371, ex_371⟩ : ∃ y : Int32, y = y_31 + 1 := ⟨_, rfl⟩
        refine lv_iinc (v := x_371) (lv' := [(6, .int x_371), (5, .int (A 40 (x1.toInt + 60 * x3.toInt + x4.toInt + 230).toNat)), (0, .ref a0), (1, .int x1), (2, .int x2), (3, .int x3), (4, .int x4)]) hx hb dX12_doLay_93 hl (k := 0) rfl (by rw [ex_371]; rfl) (by decide) rfl (fun ls hl => ?_)
        refine lv_goto (tgt := 39) hx hb dX12_doLay_96 (by decide) ?_
        have g_372 := z_rng y_31
        obtain ⟨f_371, l_371, u_371⟩ := z_add ex_371 rfl ti_1
        try replace f_371 : x_371.toInt = y_31.toInt + 1 := by omega
        clear l_371 u_371
        have g_373 := z_rng (A_33 40 (x1.toInt + x3.toInt + 22).toNat)
        have fq_374 : fC (A 40) (A_368 40) x1.toInt ([(22, 25), (230, 469)] : List (Int × Int)) := fun j hj hh => by
          have h9 := hh
          simp only [List.mem_cons, List.not_mem_nil, or_false, forall_eq_or_imp, forall_eq] at h9
          rw [hE_368, va_up_self, pk_un (show j.toNat ≠ (x1.toInt + 60 * x3.toInt + y_31.toInt + 230).toNat by omega)]
          exact iv_33_1 j hj hh
        exact ih_32 A_368 _ _ x_371 _ (by omega) (by omega) fq_374 (by rw [hE_368, va_up_self, pk_un (by omega)]; exact iv_33_2) (fun q9 h1 h2 h3 => by rw [hE_368, va_up_self, pk_un (by omega)]; exact iv_33_3 q9 h1 h2 h3) FA FC WZ hT hP hS (lv_sub hl [0, 1, 2, 3, 4, 5, 6] rfl)
  have g_375 := z_rng x4
  have fq_376 : fC (A 40) (A_28 40) x1.toInt ([(22, 25), (230, 469)] : List (Int × Int)) := fun j hj hh => by
    have h9 := hh
    simp only [List.mem_cons, List.not_mem_nil, or_false, forall_eq_or_imp, forall_eq] at h9
    rw [hE_28, va_up_self, pk_un (show j.toNat ≠ (x1.toInt + x3.toInt + 22).toNat by omega)]
  exact L_39_32 _ A_28 _ _ x4 _ (Nat.lt_succ_self _) (Int.le_refl _) fq_376 (by rw [hE_28, va_up_self, pk_us]; omega) (fun q9 h1 h2 h3 => by rw [hE_28, va_up_self, pk_un (by omega)]) FA FC WZ hT hP hS (lv_sub hl [0, 1, 2, 3, 4, 5, 6] rfl)
set_option maxHeartbeats 4000000 in
set_option maxRecDepth 100000 in
theorem c_X12_doClaim (l : Launch) (D : va_G) (K : zK) (hM : mK K) (f : Nat → Int32) (A : Nat → Nat → Int32) (hT : mT f A) (a0 : Nat) (ha0 : a0 ∈ zl K) (hk0 : zk K a0 = 11) (x1 : Int32) (x2 : Int32) (x3 : Int32) (x4 : Int32) (hp0 : zRow x1.toInt) (hp1 : 0 ≤ x3.toInt ∧ x3.toInt ≤ 1) (hp2 : rowP (A 40) x1.toInt) (hp3 : (f 11).toInt ≤ 1960000000) (hp4 : (f 9).toInt ≤ 1960000000) : Met l yX12_doClaim (zc yX12_doClaim cX12_doClaim 9 none) (rmd 3) (va_Pc [.ref a0, .int x1, .int x2, .int x3, .int x4] (zB D K (mV K f A))) (mQv D K (fun f' A' => mT f' A' ∧ (∀ k, k ∉ ([40, 48, 50] : List Nat) → A' k = A k) ∧ (∀ k, k ∉ ([9, 11] : List Nat) → f' k = f k) ∧ fC (A 40) (A' 40) x1.toInt ([(5, 5), (9, 9), (15, 18), (22, 25), (39, 42), (110, 169)] : List (Int × Int)) ∧ wz (A 40) (A' 40) x1.toInt ∧ (f 9).toInt ≤ (f' 9).toInt ∧ (f' 9).toInt ≤ (f 9).toInt + 2 ∧ (f 11).toInt ≤ (f' 11).toInt ∧ (f' 11).toInt ≤ (f 11).toInt + 6 ∧ ((f 12).toInt ≠ 0 → (f' 11).toInt = (f 11).toInt) ∧ rowN (A' 40) x1.toInt)) 0 0 (zA K) := by
  refine zin (by decide) (Nat.le_of_ble_eq_true rfl) ?_
  intro p e s m args below meth c ls Q hQ C hr hlk hP hs hl
  have C : CallFix p m c cX12_doClaim 9 s args zw RX12 := C
  obtain ⟨hx, hb, hml, hown, hts⟩ := id C
  have hO := hM.1
  have hS : va_S (zA K) s.heap s.heap [] := va_S.rf
  have FA : ∀ k, k ∉ ([40, 48, 50] : List Nat) → A k = A k := fun _ _ => rfl
  have FF : ∀ k, k ∉ ([9, 11] : List Nat) → f k = f k := fun _ _ => rfl
  have FC : fC (A 40) (A 40) x1.toInt ([(5, 5), (9, 9), (15, 18), (22, 25), (39, 42), (110, 169)] : List (Int × Int)) := fun _ _ _ => rfl
  have WZ : wz (A 40) (A 40) x1.toInt := wz.rf
  have hl : lv_has ls 9 [(0, .ref a0), (1, .int x1), (2, .int x2), (3, .int x3), (4, .int x4)] := hl
  have hb0 := hp0.lin
  have tR0 := hT.row hp0
  refine lv_iconst (v := 0) hx hb dX12_doClaim_0 (by decide) ?_
  refine lv_istore (lv' := [(5, .int 0), (0, .ref a0), (1, .int x1), (2, .int x2), (3, .int x3), (4, .int x4)]) hx hb dX12_doClaim_1 hl (by decide) rfl (fun ls hl => ?_)
  refine lv_iconst (v := 0) hx hb dX12_doClaim_3 (by decide) ?_
  refine lv_istore (lv' := [(6, .int 0), (5, .int 0), (0, .ref a0), (1, .int x1), (2, .int x2), (3, .int x3), (4, .int x4)]) hx hb dX12_doClaim_4 hl (by decide) rfl (fun ls hl => ?_)
  have L_6_3 : ∀ (n_3 : Nat) (y_1 : Int32) (y_2 : Int32) (ls : Array Slot), (2147483648 - y_1.toInt).toNat < n_3 → 0 ≤ y_1.toInt → lv_has ls 9 [(6, .int y_1), (5, .int y_2), (0, .ref a0), (1, .int x1), (2, .int x2), (3, .int x3), (4, .int x4)] → W p l e (rmd 3) s m args below meth c s.heap [] 0 0 Q (F0 m 6 ls []) := by
    intro n_3
    induction n_3 with
    | zero => intro y_1 y_2 ls hm_3; exact absurd hm_3 (Nat.not_lt_zero _)
    | succ n_3 ih_3 =>
      intro y_1 y_2 ls hm_3 iv_4_0 hl
      refine lv_iload hx hb dX12_doClaim_6 (lv_at hl 0 rfl) ?_
      refine lv_iconst (v := 4) hx hb dX12_doClaim_8 (by decide) ?_
      refine bi_ge (tgt := 37) hx hb rfl ti_4 dX12_doClaim_9 (by decide) (fun c_5 => ?_) (fun c_5 => ?_)
      · skip
        refine lv_iconst (v := 1) hx hb dX12_doClaim_37 (by decide) ?_
        refine lv_iload_n hx hb dX12_doClaim_38 rfl (lv_at hl 5 rfl) ?_
        refine lv_isub hx hb dX12_doClaim_39 ?_
        refine lv_topi (fun x_22 ex_22 => ?_)
        refine lv_istore (lv' := [(6, .int x_22), (5, .int y_2), (0, .ref a0), (1, .int x1), (2, .int x2), (3, .int x3), (4, .int x4)]) hx hb dX12_doClaim_40 hl (by decide) rfl (fun ls hl => ?_)
        refine lv_aload_n hx hb dX12_doClaim_42 rfl (lv_at hl 2 rfl) ?_
        refine mg_0 C hs hP ha0 hk0 wf_X12_8 dX12_doClaim_43 ?_
        have hf_23 := hO.r (j := 0) ha0 hk0 (rfl : zX 11 0 = some (40, 47730))
        refine lv_iload_n hx hb dX12_doClaim_46 rfl (lv_at hl 3 rfl) ?_
        refine lv_bipush (v := 15) hx hb dX12_doClaim_47 (by decide) ?_
        refine lv_iadd hx hb dX12_doClaim_49 ?_
        refine lv_topi (fun x_24 ex_24 => ?_)
        refine lv_iload_n hx hb dX12_doClaim_50 rfl (lv_at hl 5 rfl) ?_
        refine lv_iadd hx hb dX12_doClaim_51 ?_
        refine lv_topi (fun x_25 ex_25 => ?_)
        refine lv_dup2_11 hx hb dX12_doClaim_52 rfl rfl ?_
        have hi_hr_26 : zEq x_25.toInt (x1.toInt + x3.toInt + 15) := by
          have g_27 := z_rng x1
          obtain ⟨f_24, l_24, u_24⟩ := z_add ex_24 rfl ti_15
          try replace f_24 : x_24.toInt = x1.toInt + 15 := by omega
          clear l_24 u_24
          have g_28 := z_rng x3
          obtain ⟨f_25, l_25, u_25⟩ := z_add ex_25 rfl rfl
          try replace f_25 : x_25.toInt = x_24.toInt + x3.toInt := by omega
          clear l_25 u_25
          show x_25.toInt = (x1.toInt + x3.toInt + 15)
          omega
        have hl_hr_26 : 15 ≤ x3.toInt + 15 ∧ x3.toInt + 15 ≤ 16 := by
          have g_29 := z_rng x1
          have g_30 := z_rng x3
          omega
        have hid_hr_26 : (x1.toInt + x3.toInt + 15) = x1.toInt + (x3.toInt + 15) := by simp only [Int.add_assoc, Int.add_sub_assoc]
        have hr_26 := z_cell (lo := 10) (hi := 19) hp0 hi_hr_26 hid_hr_26 hl_hr_26 (by decide)
        replace hid_hr_26 : zEq (x1.toInt + x3.toInt + 15) (x1.toInt + (x3.toInt + 15)) := hid_hr_26
        have hin_31 : vp_in x_25 (zn K (zr K a0 0)) := vp_in_iff.mpr (by rw [(hf_23.2.2 (by decide))]; exact hr_26.in)
        refine mld_40 C hs hP hf_23.1 hf_23.2.1 hin_31 dX12_doClaim_53 ?_
        have ep_32 : x_25.toNatClampNeg = (x1.toInt + x3.toInt + 15).toNat := z_posE hi_hr_26
        rw [ep_32]
        refine lv_iload hx hb dX12_doClaim_54 (lv_at hl 6 rfl) ?_
        refine lv_iadd hx hb dX12_doClaim_56 ?_
        refine lv_topi (fun x_33 ex_33 => ?_)
        have hin_34 : vp_in x_25 (zn K (zr K a0 0)) := vp_in_iff.mpr (by rw [(hf_23.2.2 (by decide))]; exact hr_26.in)
        refine mst_40 C hM hs hP hS hf_23.1 hT hf_23.2.1 hin_34 (tp_10 hr_26) dX12_doClaim_57 (fun A_35 H locs hE_35 hT hP hS => ?_)
        have ep_36 : x_25.toNatClampNeg = (x1.toInt + x3.toInt + 15).toNat := z_posE hi_hr_26
        rw [ep_36] at hE_35
        have FA := frA FA (frAu hE_35) (by decide)
        have FC := fC.tr FC (fC.st (b := x1.toInt) (lo := 15) (hi := 16) hE_35 hb0.1 (by decide) hid_hr_26 hl_hr_26) (by decide)
        have WZ := wz.st WZ hE_35 (Or.inr (by omega))
        refine lv_aload_n hx hb dX12_doClaim_58 rfl (lv_at hl 2 rfl) ?_
        refine mg_0 C hs hP ha0 hk0 wf_X12_8 dX12_doClaim_59 ?_
        refine lv_iload_n hx hb dX12_doClaim_62 rfl (lv_at hl 3 rfl) ?_
        refine lv_bipush (v := 17) hx hb dX12_doClaim_63 (by decide) ?_
        refine lv_iadd hx hb dX12_doClaim_65 ?_
        refine lv_topi (fun x_37 ex_37 => ?_)
        refine lv_iload_n hx hb dX12_doClaim_66 rfl (lv_at hl 5 rfl) ?_
        refine lv_iadd hx hb dX12_doClaim_67 ?_
        refine lv_topi (fun x_38 ex_38 => ?_)
        refine lv_dup2_11 hx hb dX12_doClaim_68 rfl rfl ?_
        have hi_hr_39 : zEq x_38.toInt (x1.toInt + x3.toInt + 17) := by
          have g_40 := z_rng x1
          obtain ⟨f_37, l_37, u_37⟩ := z_add ex_37 rfl ti_17
          try replace f_37 : x_37.toInt = x1.toInt + 17 := by omega
          clear l_37 u_37
          have g_41 := z_rng x3
          obtain ⟨f_38, l_38, u_38⟩ := z_add ex_38 rfl rfl
          try replace f_38 : x_38.toInt = x_37.toInt + x3.toInt := by omega
          clear l_38 u_38
          show x_38.toInt = (x1.toInt + x3.toInt + 17)
          omega
        have hl_hr_39 : 17 ≤ x3.toInt + 17 ∧ x3.toInt + 17 ≤ 18 := by
          have g_42 := z_rng x1
          have g_43 := z_rng x3
          omega
        have hid_hr_39 : (x1.toInt + x3.toInt + 17) = x1.toInt + (x3.toInt + 17) := by simp only [Int.add_assoc, Int.add_sub_assoc]
        have hr_39 := z_cell (lo := 10) (hi := 19) hp0 hi_hr_39 hid_hr_39 hl_hr_39 (by decide)
        replace hid_hr_39 : zEq (x1.toInt + x3.toInt + 17) (x1.toInt + (x3.toInt + 17)) := hid_hr_39
        have hin_44 : vp_in x_38 (zn K (zr K a0 0)) := vp_in_iff.mpr (by rw [(hf_23.2.2 (by decide))]; exact hr_39.in)
        refine mld_40 C hs hP hf_23.1 hf_23.2.1 hin_44 dX12_doClaim_69 ?_
        have ep_45 : x_38.toNatClampNeg = (x1.toInt + x3.toInt + 17).toNat := z_posE hi_hr_39
        rw [ep_45]
        have g_47 := z_rng x1
        obtain ⟨f_37, l_37, u_37⟩ := z_add ex_37 rfl ti_17
        try replace f_37 : x_37.toInt = x1.toInt + 17 := by omega
        clear l_37 u_37
        have g_48 := z_rng x3
        obtain ⟨f_38, l_38, u_38⟩ := z_add ex_38 rfl rfl
        try replace f_38 : x_38.toInt = x_37.toInt + x3.toInt := by omega
        clear l_38 u_38
        obtain ⟨f_24, l_24, u_24⟩ := z_add ex_24 rfl ti_15
        try replace f_24 : x_24.toInt = x1.toInt + 15 := by omega
        clear l_24 u_24
        obtain ⟨f_25, l_25, u_25⟩ := z_add ex_25 rfl rfl
        try replace f_25 : x_25.toInt = x_24.toInt + x3.toInt := by omega
        clear l_25 u_25
        have hn_46 : (x1.toInt + x3.toInt + 17).toNat ≠ (x1.toInt + x3.toInt + 15).toNat := by omega
        have ev_49 : A_35 40 (x1.toInt + x3.toInt + 17).toNat = A 40 (x1.toInt + x3.toInt + 17).toNat := by rw [hE_35, va_up_self, pk_un hn_46]
        rw [ev_49]
        refine lv_iload hx hb dX12_doClaim_70 (lv_at hl 6 rfl) ?_
        refine lv_iadd hx hb dX12_doClaim_72 ?_
        refine lv_topi (fun x_50 ex_50 => ?_)
        have hin_51 : vp_in x_38 (zn K (zr K a0 0)) := vp_in_iff.mpr (by rw [(hf_23.2.2 (by decide))]; exact hr_39.in)
        refine mst_40 C hM hs hP hS hf_23.1 hT hf_23.2.1 hin_51 (tp_10 hr_39) dX12_doClaim_73 (fun A_52 H locs hE_52 hT hP hS => ?_)
        have ep_53 : x_38.toNatClampNeg = (x1.toInt + x3.toInt + 17).toNat := z_posE hi_hr_39
        rw [ep_53] at hE_52
        have FA := frA FA (frAu hE_52) (by decide)
        have FC := fC.tr FC (fC.st (b := x1.toInt) (lo := 17) (hi := 18) hE_52 hb0.1 (by decide) hid_hr_39 hl_hr_39) (by decide)
        have WZ := wz.st WZ hE_52 (Or.inr (by omega))
        refine lv_aload_n hx hb dX12_doClaim_74 rfl (lv_at hl 2 rfl) ?_
        refine mg_0 C hs hP ha0 hk0 wf_X12_8 dX12_doClaim_75 ?_
        refine lv_iload_n hx hb dX12_doClaim_78 rfl (lv_at hl 3 rfl) ?_
        refine lv_bipush (v := 15) hx hb dX12_doClaim_79 (by decide) ?_
        refine lv_iadd hx hb dX12_doClaim_81 ?_
        refine lv_topi (fun x_54 ex_54 => ?_)
        refine lv_iload hx hb dX12_doClaim_82 (lv_at hl 0 rfl) ?_
        refine lv_iadd hx hb dX12_doClaim_84 ?_
        refine lv_topi (fun x_55 ex_55 => ?_)
        refine lv_dup2_11 hx hb dX12_doClaim_85 rfl rfl ?_
        have hi_hr_56 : zEq x_55.toInt (x1.toInt + -1 * x3.toInt + 16) := by
          obtain ⟨f_54, l_54, u_54⟩ := z_add ex_54 rfl ti_15
          try replace f_54 : x_54.toInt = x1.toInt + 15 := by omega
          clear l_54 u_54
          obtain ⟨f_22, l_22, u_22⟩ := z_sub ex_22 ti_1 rfl
          try replace f_22 : x_22.toInt = 1 - x3.toInt := by omega
          clear l_22 u_22
          obtain ⟨f_55, l_55, u_55⟩ := z_add ex_55 rfl rfl
          try replace f_55 : x_55.toInt = x_54.toInt + x_22.toInt := by omega
          clear l_55 u_55
          show x_55.toInt = (x1.toInt + -1 * x3.toInt + 16)
          omega
        have hl_hr_56 : 15 ≤ -1 * x3.toInt + 16 ∧ -1 * x3.toInt + 16 ≤ 16 := by
          omega
        have hid_hr_56 : (x1.toInt + -1 * x3.toInt + 16) = x1.toInt + (-1 * x3.toInt + 16) := by simp only [Int.add_assoc, Int.add_sub_assoc]
        have hr_56 := z_cell (lo := 10) (hi := 19) hp0 hi_hr_56 hid_hr_56 hl_hr_56 (by decide)
        replace hid_hr_56 : zEq (x1.toInt + -1 * x3.toInt + 16) (x1.toInt + (-1 * x3.toInt + 16)) := hid_hr_56
        have hin_57 : vp_in x_55 (zn K (zr K a0 0)) := vp_in_iff.mpr (by rw [(hf_23.2.2 (by decide))]; exact hr_56.in)
        refine mld_40 C hs hP hf_23.1 hf_23.2.1 hin_57 dX12_doClaim_86 ?_
        have ep_58 : x_55.toNatClampNeg = (x1.toInt + -1 * x3.toInt + 16).toNat := z_posE hi_hr_56
        rw [ep_58]
        refine lv_iload hx hb dX12_doClaim_87 (lv_at hl 1 rfl) ?_
        refine lv_iload hx hb dX12_doClaim_89 (lv_at hl 6 rfl) ?_
        refine lv_isub hx hb dX12_doClaim_91 ?_
        refine lv_topi (fun x_59 ex_59 => ?_)
        refine lv_iadd hx hb dX12_doClaim_92 ?_
        refine lv_topi (fun x_60 ex_60 => ?_)
        have hin_61 : vp_in x_55 (zn K (zr K a0 0)) := vp_in_iff.mpr (by rw [(hf_23.2.2 (by decide))]; exact hr_56.in)
        refine mst_40 C hM hs hP hS hf_23.1 hT hf_23.2.1 hin_61 (tp_10 hr_56) dX12_doClaim_93 (fun A_62 H locs hE_62 hT hP hS => ?_)
        have ep_63 : x_55.toNatClampNeg = (x1.toInt + -1 * x3.toInt + 16).toNat := z_posE hi_hr_56
        rw [ep_63] at hE_62
        have FA := frA FA (frAu hE_62) (by decide)
        have FC := fC.tr FC (fC.st (b := x1.toInt) (lo := 15) (hi := 16) hE_62 hb0.1 (by decide) hid_hr_56 hl_hr_56) (by decide)
        have WZ := wz.st WZ hE_62 (Or.inr (by omega))
        refine lv_aload_n hx hb dX12_doClaim_94 rfl (lv_at hl 2 rfl) ?_
        refine mg_0 C hs hP ha0 hk0 wf_X12_8 dX12_doClaim_95 ?_
        refine lv_iload_n hx hb dX12_doClaim_98 rfl (lv_at hl 3 rfl) ?_
        refine lv_bipush (v := 17) hx hb dX12_doClaim_99 (by decide) ?_
        refine lv_iadd hx hb dX12_doClaim_101 ?_
        refine lv_topi (fun x_64 ex_64 => ?_)
        refine lv_iload hx hb dX12_doClaim_102 (lv_at hl 0 rfl) ?_
        refine lv_iadd hx hb dX12_doClaim_104 ?_
        refine lv_topi (fun x_65 ex_65 => ?_)
        refine lv_dup2_11 hx hb dX12_doClaim_105 rfl rfl ?_
        have hi_hr_66 : zEq x_65.toInt (x1.toInt + -1 * x3.toInt + 18) := by
          obtain ⟨f_64, l_64, u_64⟩ := z_add ex_64 rfl ti_17
          try replace f_64 : x_64.toInt = x1.toInt + 17 := by omega
          clear l_64 u_64
          obtain ⟨f_22, l_22, u_22⟩ := z_sub ex_22 ti_1 rfl
          try replace f_22 : x_22.toInt = 1 - x3.toInt := by omega
          clear l_22 u_22
          obtain ⟨f_65, l_65, u_65⟩ := z_add ex_65 rfl rfl
          try replace f_65 : x_65.toInt = x_64.toInt + x_22.toInt := by omega
          clear l_65 u_65
          show x_65.toInt = (x1.toInt + -1 * x3.toInt + 18)
          omega
        have hl_hr_66 : 17 ≤ -1 * x3.toInt + 18 ∧ -1 * x3.toInt + 18 ≤ 18 := by
          omega
        have hid_hr_66 : (x1.toInt + -1 * x3.toInt + 18) = x1.toInt + (-1 * x3.toInt + 18) := by simp only [Int.add_assoc, Int.add_sub_assoc]
        have hr_66 := z_cell (lo := 10) (hi := 19) hp0 hi_hr_66 hid_hr_66 hl_hr_66 (by decide)
        replace hid_hr_66 : zEq (x1.toInt + -1 * x3.toInt + 18) (x1.toInt + (-1 * x3.toInt + 18)) := hid_hr_66
        have hin_67 : vp_in x_65 (zn K (zr K a0 0)) := vp_in_iff.mpr (by rw [(hf_23.2.2 (by decide))]; exact hr_66.in)
        refine mld_40 C hs hP hf_23.1 hf_23.2.1 hin_67 dX12_doClaim_106 ?_
        have ep_68 : x_65.toNatClampNeg = (x1.toInt + -1 * x3.toInt + 18).toNat := z_posE hi_hr_66
        rw [ep_68]
        obtain ⟨f_64, l_64, u_64⟩ := z_add ex_64 rfl ti_17
        try replace f_64 : x_64.toInt = x1.toInt + 17 := by omega
        clear l_64 u_64
        obtain ⟨f_22, l_22, u_22⟩ := z_sub ex_22 ti_1 rfl
        try replace f_22 : x_22.toInt = 1 - x3.toInt := by omega
        clear l_22 u_22
        obtain ⟨f_65, l_65, u_65⟩ := z_add ex_65 rfl rfl
        try replace f_65 : x_65.toInt = x_64.toInt + x_22.toInt := by omega
        clear l_65 u_65
        obtain ⟨f_54, l_54, u_54⟩ := z_add ex_54 rfl ti_15
        try replace f_54 : x_54.toInt = x1.toInt + 15 := by omega
        clear l_54 u_54
        obtain ⟨f_55, l_55, u_55⟩ := z_add ex_55 rfl rfl
        try replace f_55 : x_55.toInt = x_54.toInt + x_22.toInt := by omega
        clear l_55 u_55
        have hn_69 : (x1.toInt + -1 * x3.toInt + 18).toNat ≠ (x1.toInt + -1 * x3.toInt + 16).toNat := by omega
        have ev_70 : A_62 40 (x1.toInt + -1 * x3.toInt + 18).toNat = A_52 40 (x1.toInt + -1 * x3.toInt + 18).toNat := by rw [hE_62, va_up_self, pk_un hn_69]
        rw [ev_70]
        refine lv_iload hx hb dX12_doClaim_107 (lv_at hl 1 rfl) ?_
        refine lv_iload hx hb dX12_doClaim_109 (lv_at hl 6 rfl) ?_
        refine lv_isub hx hb dX12_doClaim_111 ?_
        refine lv_topi (fun x_71 ex_71 => ?_)
        refine lv_iadd hx hb dX12_doClaim_112 ?_
        refine lv_topi (fun x_72 ex_72 => ?_)
        have hin_73 : vp_in x_65 (zn K (zr K a0 0)) := vp_in_iff.mpr (by rw [(hf_23.2.2 (by decide))]; exact hr_66.in)
        refine mst_40 C hM hs hP hS hf_23.1 hT hf_23.2.1 hin_73 (tp_10 hr_66) dX12_doClaim_113 (fun A_74 H locs hE_74 hT hP hS => ?_)
        have ep_75 : x_65.toNatClampNeg = (x1.toInt + -1 * x3.toInt + 18).toNat := z_posE hi_hr_66
        rw [ep_75] at hE_74
        have FA := frA FA (frAu hE_74) (by decide)
        have FC := fC.tr FC (fC.st (b := x1.toInt) (lo := 17) (hi := 18) hE_74 hb0.1 (by decide) hid_hr_66 hl_hr_66) (by decide)
        have WZ := wz.st WZ hE_74 (Or.inr (by omega))
        refine lv_iconst (v := 0) hx hb dX12_doClaim_114 (by decide) ?_
        refine lv_istore (lv' := [(7, .int 0), (6, .int x_22), (5, .int y_2), (0, .ref a0), (1, .int x1), (2, .int x2), (3, .int x3), (4, .int x4)]) hx hb dX12_doClaim_115 hl (by decide) rfl (fun ls hl => ?_)
        have L_117_77 : ∀ (n_77 : Nat) (A_78 : Nat → Nat → Int32) (H : Heap) (locs : List Loc) (y_76 : Int32) (ls : Array Slot), (2147483648 - y_76.toInt).toNat < n_77 → 0 ≤ y_76.toInt → fC (A 40) (A_78 40) x1.toInt ([(15, 18), (22, 25), (110, 169)] : List (Int × Int)) → (∀ q : Int, 0 ≤ q → q ≤ 3 → (A_78 40 (x1.toInt + q + 22).toNat).toInt ≤ (A 40 (x1.toInt + q + 22).toNat).toInt) → (∀ k, k ∉ ([40, 48, 50] : List Nat) → A_78 k = A k) → fC (A 40) (A_78 40) x1.toInt ([(5, 5), (9, 9), (15, 18), (22, 25), (39, 42), (110, 169)] : List (Int × Int)) → wz (A 40) (A_78 40) x1.toInt → mT f A_78 → va_P D vwCl (zW K (mV K f A_78)) H → va_S (zA K) s.heap H locs → lv_has ls 9 [(7, .int y_76), (6, .int x_22), (5, .int y_2), (0, .ref a0), (1, .int x1), (2, .int x2), (3, .int x3), (4, .int x4)] → W p l e (rmd 3) s m args below meth c H locs 0 0 Q (F0 m 117 ls []) := by
          intro n_77
          induction n_77 with
          | zero => intro A_78 H locs y_76 ls hm_77; exact absurd hm_77 (Nat.not_lt_zero _)
          | succ n_77 ih_77 =>
            intro A_78 H locs y_76 ls hm_77 iv_78_0 iv_78_1 iv_78_2 FA_78 FC_78 WZ_78 hT hP hS hl
            have FA := FA_78
            have FC := FC_78
            have WZ := WZ_78
            have FCc := FC
            have WZc := WZ
            refine lv_iload hx hb dX12_doClaim_117 (lv_at hl 0 rfl) ?_
            refine lv_iconst (v := 4) hx hb dX12_doClaim_119 (by decide) ?_
            refine bi_ge (tgt := 216) hx hb rfl ti_4 dX12_doClaim_120 (by decide) (fun c_80 => ?_) (fun c_80 => ?_)
            · skip
              refine lv_aload_n hx hb dX12_doClaim_216 rfl (lv_at hl 3 rfl) ?_
              refine lv_iload_n hx hb dX12_doClaim_217 rfl (lv_at hl 4 rfl) ?_
              refine lv_iload_n hx hb dX12_doClaim_218 rfl (lv_at hl 5 rfl) ?_
              have g_81 := z_rng x2
              have hq_82 : (f 11).toInt ≤ 1970000000 := by (first | assumption | omega | (intros; omega))
              have hq_83 : (f 9).toInt ≤ 1970000000 := by (first | assumption | omega | (intros; omega))
              refine mcV (zrV (As := [.int x1, .int x2]) (b := a0) (rest := []) C hs hP hS (c_X12_endDeal l D K hM f A_78 hT a0 ha0 hk0 x1 x2 hp0 hq_82 hq_83) m_X12_endDeal wm_X12_226 (zrecv hs hP ha0 (zF_11 hk0) rfl) ⟨by decide, by decide⟩ hl.1 (Nat.le_of_ble_eq_true rfl) dX12_doClaim_219) hS (fun f_84 A_84 H locs p_84 hP hS => ?_)
              obtain ⟨hT, hA_84, hF_84, hC_84, pp_84⟩ := p_84
              have pp_84 : (f 9).toInt ≤ (f_84 9).toInt ∧ (f_84 9).toInt ≤ (f 9).toInt + 2 ∧ (f 11).toInt ≤ (f_84 11).toInt ∧ (f_84 11).toInt ≤ (f 11).toInt + 6 ∧ ((f 12).toInt ≠ 0 → (f_84 11).toInt = (f 11).toInt) ∧ (rowP (A_78 40) x1.toInt → rowN (A_84 40) x1.toInt) := pp_84
              have pp0_84 := pp_84
              have FA := frA FA hA_84 (by decide)
              have FF := frF FF hF_84 (by decide)
              have FC := fC.tr FC hC_84 (by decide)
              have WZ := wz.fC WZ hC_84 (by omega) (by decide)
              have hRN := pp0_84.2.2.2.2.2 (rowP.cl hp2 tR0 hb0.1 FCc WZc iv_78_2 (by decide) (by decide) (by decide) (by decide) (by decide) (by decide) (by decide))
              exact maV hQ hx hb hr hlk hP hS ⟨hT, FA, FF, FC, WZ, ⟨by omega, by omega, by omega, by omega, fun h9 => by omega, hRN⟩⟩ dX12_doClaim_222
            · skip
              refine lv_iconst (v := 0) hx hb dX12_doClaim_123 (by decide) ?_
              refine lv_istore (lv' := [(8, .int 0), (7, .int y_76), (6, .int x_22), (5, .int y_2), (0, .ref a0), (1, .int x1), (2, .int x2), (3, .int x3), (4, .int x4)]) hx hb dX12_doClaim_124 hl (by decide) rfl (fun ls hl => ?_)
              have L_126_86 : ∀ (n_86 : Nat) (A_87 : Nat → Nat → Int32) (H : Heap) (locs : List Loc) (y_85 : Int32) (ls : Array Slot), (2147483648 - y_85.toInt).toNat < n_86 → 0 ≤ y_85.toInt → fC (A 40) (A_87 40) x1.toInt ([(15, 18), (22, 25), (110, 169)] : List (Int × Int)) → (∀ q : Int, 0 ≤ q → q ≤ 3 → (A_87 40 (x1.toInt + q + 22).toNat).toInt ≤ (A 40 (x1.toInt + q + 22).toNat).toInt) → (∀ k, k ∉ ([40, 48, 50] : List Nat) → A_87 k = A k) → fC (A 40) (A_87 40) x1.toInt ([(5, 5), (9, 9), (15, 18), (22, 25), (39, 42), (110, 169)] : List (Int × Int)) → wz (A 40) (A_87 40) x1.toInt → mT f A_87 → va_P D vwCl (zW K (mV K f A_87)) H → va_S (zA K) s.heap H locs → lv_has ls 9 [(8, .int y_85), (7, .int y_76), (6, .int x_22), (5, .int y_2), (0, .ref a0), (1, .int x1), (2, .int x2), (3, .int x3), (4, .int x4)] → W p l e (rmd 3) s m args below meth c H locs 0 0 Q (F0 m 126 ls []) := by
                intro n_86
                induction n_86 with
                | zero => intro A_87 H locs y_85 ls hm_86; exact absurd hm_86 (Nat.not_lt_zero _)
                | succ n_86 ih_86 =>
                  intro A_87 H locs y_85 ls hm_86 iv_87_0 iv_87_1 iv_87_2 FA_87 FC_87 WZ_87 hT hP hS hl
                  have FA := FA_87
                  have FC := FC_87
                  have WZ := WZ_87
                  refine lv_iload hx hb dX12_doClaim_126 (lv_at hl 0 rfl) ?_
                  refine lv_aload_n hx hb dX12_doClaim_128 rfl (lv_at hl 4 rfl) ?_
                  refine mg_0 C hs hP ha0 hk0 wf_X12_8 dX12_doClaim_129 ?_
                  refine lv_iload_n hx hb dX12_doClaim_132 rfl (lv_at hl 5 rfl) ?_
                  refine lv_bipush (v := 22) hx hb dX12_doClaim_133 (by decide) ?_
                  refine lv_iadd hx hb dX12_doClaim_135 ?_
                  refine lv_topi (fun x_89 ex_89 => ?_)
                  refine lv_iload hx hb dX12_doClaim_136 (lv_at hl 1 rfl) ?_
                  refine lv_iadd hx hb dX12_doClaim_138 ?_
                  refine lv_topi (fun x_90 ex_90 => ?_)
                  have hi_hr_91 : zEq x_90.toInt (x1.toInt + y_76.toInt + 22) := by
                    obtain ⟨f_89, l_89, u_89⟩ := z_add ex_89 rfl ti_22
                    try replace f_89 : x_89.toInt = x1.toInt + 22 := by omega
                    clear l_89 u_89
                    have g_92 := z_rng y_76
                    obtain ⟨f_90, l_90, u_90⟩ := z_add ex_90 rfl rfl
                    try replace f_90 : x_90.toInt = x_89.toInt + y_76.toInt := by omega
                    clear l_90 u_90
                    show x_90.toInt = (x1.toInt + y_76.toInt + 22)
                    omega
                  have hl_hr_91 : 22 ≤ y_76.toInt + 22 ∧ y_76.toInt + 22 ≤ 25 := by
                    have g_93 := z_rng y_76
                    omega
                  have hid_hr_91 : (x1.toInt + y_76.toInt + 22) = x1.toInt + (y_76.toInt + 22) := by simp only [Int.add_assoc, Int.add_sub_assoc]
                  have hr_91 := z_cell (lo := 22) (hi := 25) hp0 hi_hr_91 hid_hr_91 hl_hr_91 (by decide)
                  replace hid_hr_91 : zEq (x1.toInt + y_76.toInt + 22) (x1.toInt + (y_76.toInt + 22)) := hid_hr_91
                  have hin_94 : vp_in x_90 (zn K (zr K a0 0)) := vp_in_iff.mpr (by rw [(hf_23.2.2 (by decide))]; exact hr_91.in)
                  refine mld_40 C hs hP hf_23.1 hf_23.2.1 hin_94 dX12_doClaim_139 ?_
                  have ep_95 : x_90.toNatClampNeg = (x1.toInt + y_76.toInt + 22).toNat := z_posE hi_hr_91
                  rw [ep_95]
                  have tv_96 := rv_22 hT hr_91
                  rw [ep_95] at tv_96
                  refine bi_ge (tgt := 182) hx hb rfl rfl dX12_doClaim_140 (by decide) (fun c_97 => ?_) (fun c_97 => ?_)
                  · skip
                    refine lv_aload_n hx hb dX12_doClaim_182 rfl (lv_at hl 4 rfl) ?_
                    refine mg_0 C hs hP ha0 hk0 wf_X12_8 dX12_doClaim_183 ?_
                    refine lv_iload_n hx hb dX12_doClaim_186 rfl (lv_at hl 5 rfl) ?_
                    refine lv_bipush (v := 22) hx hb dX12_doClaim_187 (by decide) ?_
                    refine lv_iadd hx hb dX12_doClaim_189 ?_
                    refine lv_topi (fun x_126 ex_126 => ?_)
                    refine lv_iload hx hb dX12_doClaim_190 (lv_at hl 1 rfl) ?_
                    refine lv_iadd hx hb dX12_doClaim_192 ?_
                    refine lv_topi (fun x_127 ex_127 => ?_)
                    refine lv_aload_n hx hb dX12_doClaim_193 rfl (lv_at hl 4 rfl) ?_
                    refine mg_0 C hs hP ha0 hk0 wf_X12_8 dX12_doClaim_194 ?_
                    refine lv_iload_n hx hb dX12_doClaim_197 rfl (lv_at hl 5 rfl) ?_
                    refine lv_bipush (v := 22) hx hb dX12_doClaim_198 (by decide) ?_
                    refine lv_iadd hx hb dX12_doClaim_200 ?_
                    refine lv_topi (fun x_128 ex_128 => ?_)
                    refine lv_iload hx hb dX12_doClaim_201 (lv_at hl 1 rfl) ?_
                    refine lv_iadd hx hb dX12_doClaim_203 ?_
                    refine lv_topi (fun x_129 ex_129 => ?_)
                    have hi_hr_130 : zEq x_129.toInt (x1.toInt + y_76.toInt + 22) := by
                      obtain ⟨f_128, l_128, u_128⟩ := z_add ex_128 rfl ti_22
                      try replace f_128 : x_128.toInt = x1.toInt + 22 := by omega
                      clear l_128 u_128
                      have g_131 := z_rng y_76
                      obtain ⟨f_129, l_129, u_129⟩ := z_add ex_129 rfl rfl
                      try replace f_129 : x_129.toInt = x_128.toInt + y_76.toInt := by omega
                      clear l_129 u_129
                      show x_129.toInt = (x1.toInt + y_76.toInt + 22)
                      omega
                    have hl_hr_130 : 22 ≤ y_76.toInt + 22 ∧ y_76.toInt + 22 ≤ 25 := by
                      have g_132 := z_rng y_76
                      omega
                    have hid_hr_130 : (x1.toInt + y_76.toInt + 22) = x1.toInt + (y_76.toInt + 22) := by simp only [Int.add_assoc, Int.add_sub_assoc]
                    have hr_130 := z_cell (lo := 22) (hi := 25) hp0 hi_hr_130 hid_hr_130 hl_hr_130 (by decide)
                    replace hid_hr_130 : zEq (x1.toInt + y_76.toInt + 22) (x1.toInt + (y_76.toInt + 22)) := hid_hr_130
                    have hin_133 : vp_in x_129 (zn K (zr K a0 0)) := vp_in_iff.mpr (by rw [(hf_23.2.2 (by decide))]; exact hr_130.in)
                    refine mld_40 C hs hP hf_23.1 hf_23.2.1 hin_133 dX12_doClaim_204 ?_
                    have ep_134 : x_129.toNatClampNeg = (x1.toInt + y_76.toInt + 22).toNat := z_posE hi_hr_130
                    rw [ep_134]
                    refine lv_iconst (v := 0) hx hb dX12_doClaim_205 (by decide) ?_
                    refine zcS (zrS (As := [.int (A_87 40 (x1.toInt + y_76.toInt + 22).toNat), .int 0]) (rest := [.int x_127, .ref (zr K a0 0)]) C hs hP hS (c_X12_least l D K hM f A_87 hT (A_87 40 (x1.toInt + y_76.toInt + 22).toNat) 0) m_X12_least wm_X12_250 ⟨by decide, by decide⟩ hl.1 (Nat.le_of_ble_eq_true rfl) dX12_doClaim_206) (fun x_135 p_135 => ?_)
                    have pp_135 : x_135.toInt ≤ (A_87 40 (x1.toInt + y_76.toInt + 22).toNat).toInt ∧ x_135.toInt ≤ (0 : Int32).toInt ∧ (x_135.toInt = (A_87 40 (x1.toInt + y_76.toInt + 22).toNat).toInt ∨ x_135.toInt = (0 : Int32).toInt) := p_135
                    try simp only [ti_0] at pp_135
                    have g_136 := z_rng (A_87 40 (x1.toInt + y_76.toInt + 22).toNat)
                    have hi_hr_137 : zEq x_127.toInt (x1.toInt + y_76.toInt + 22) := by
                      obtain ⟨f_126, l_126, u_126⟩ := z_add ex_126 rfl ti_22
                      try replace f_126 : x_126.toInt = x1.toInt + 22 := by omega
                      clear l_126 u_126
                      have g_138 := z_rng y_76
                      obtain ⟨f_127, l_127, u_127⟩ := z_add ex_127 rfl rfl
                      try replace f_127 : x_127.toInt = x_126.toInt + y_76.toInt := by omega
                      clear l_127 u_127
                      show x_127.toInt = (x1.toInt + y_76.toInt + 22)
                      omega
                    have hl_hr_137 : 22 ≤ y_76.toInt + 22 ∧ y_76.toInt + 22 ≤ 25 := by
                      have g_139 := z_rng y_76
                      omega
                    have hid_hr_137 : (x1.toInt + y_76.toInt + 22) = x1.toInt + (y_76.toInt + 22) := by simp only [Int.add_assoc, Int.add_sub_assoc]
                    have hr_137 := z_cell (lo := 22) (hi := 25) hp0 hi_hr_137 hid_hr_137 hl_hr_137 (by decide)
                    replace hid_hr_137 : zEq (x1.toInt + y_76.toInt + 22) (x1.toInt + (y_76.toInt + 22)) := hid_hr_137
                    have hin_140 : vp_in x_127 (zn K (zr K a0 0)) := vp_in_iff.mpr (by rw [(hf_23.2.2 (by decide))]; exact hr_137.in)
                    have g_142 := z_rng x_135
                    refine mst_40 C hM hs hP hS hf_23.1 hT hf_23.2.1 hin_140 (tp_22 hr_137 (show -1 ≤ x_135.toInt ∧ x_135.toInt ≤ 60 from by omega)) dX12_doClaim_209 (fun A_141 H locs hE_141 hT hP hS => ?_)
                    have ep_143 : x_127.toNatClampNeg = (x1.toInt + y_76.toInt + 22).toNat := z_posE hi_hr_137
                    rw [ep_143] at hE_141
                    have FA := frA FA (frAu hE_141) (by decide)
                    have FC := fC.tr FC (fC.st (b := x1.toInt) (lo := 22) (hi := 25) hE_141 hb0.1 (by decide) hid_hr_137 hl_hr_137) (by decide)
                    have WZ := wz.st WZ hE_141 (Or.inr (by omega))
                    obtain ⟨x_144, ex_144⟩ : ∃ y : Int32, y = y_76 + 1 := ⟨_, rfl⟩
                    refine lv_iinc (v := x_144) (lv' := [(7, .int x_144), (8, .int y_85), (6, .int x_22), (5, .int y_2), (0, .ref a0), (1, .int x1), (2, .int x2), (3, .int x3), (4, .int x4)]) hx hb dX12_doClaim_210 hl (k := 1) rfl (by rw [ex_144]; rfl) (by decide) rfl (fun ls hl => ?_)
                    refine lv_goto (tgt := 117) hx hb dX12_doClaim_213 (by decide) ?_
                    have g_145 := z_rng y_76
                    obtain ⟨f_144, l_144, u_144⟩ := z_add ex_144 rfl ti_1
                    try replace f_144 : x_144.toInt = y_76.toInt + 1 := by omega
                    clear l_144 u_144
                    have g_146 := z_rng y_85
                    have fq_147 : fC (A 40) (A_141 40) x1.toInt ([(15, 18), (22, 25), (110, 169)] : List (Int × Int)) := fun j hj hh => by
                      have h9 := hh
                      simp only [List.mem_cons, List.not_mem_nil, or_false, forall_eq_or_imp, forall_eq] at h9
                      rw [hE_141, va_up_self, pk_un (show j.toNat ≠ (x1.toInt + y_76.toInt + 22).toNat by omega)]
                      exact iv_87_1 j hj hh
                    have hq_148 : ∀ q9 : Int, 0 ≤ q9 → q9 ≤ 3 → (A_141 40 (x1.toInt + q9 + 22).toNat).toInt ≤ (A 40 (x1.toInt + q9 + 22).toNat).toInt := fun q9 h1 h2 => by
                      have h8 := iv_87_2 q9 h1 h2
                      by_cases h9 : q9 = y_76.toInt
                      · subst h9; rw [hE_141, va_up_self, pk_us]; omega
                      · rw [hE_141, va_up_self, pk_un (by omega)]; exact h8
                    exact ih_77 A_141 _ _ x_144 _ (by omega) (by omega) fq_147 hq_148 FA FC WZ hT hP hS (lv_sub hl [0, 2, 3, 4, 5, 6, 7, 8] rfl)
                  · skip
                    refine lv_aload_n hx hb dX12_doClaim_143 rfl (lv_at hl 4 rfl) ?_
                    refine mg_0 C hs hP ha0 hk0 wf_X12_8 dX12_doClaim_144 ?_
                    refine lv_iload_n hx hb dX12_doClaim_147 rfl (lv_at hl 5 rfl) ?_
                    refine lv_bipush (v := 110) hx hb dX12_doClaim_148 (by decide) ?_
                    refine lv_iadd hx hb dX12_doClaim_150 ?_
                    refine lv_topi (fun x_149 ex_149 => ?_)
                    refine lv_aload_n hx hb dX12_doClaim_151 rfl (lv_at hl 4 rfl) ?_
                    refine mg_0 C hs hP ha0 hk0 wf_X12_8 dX12_doClaim_152 ?_
                    refine lv_iload_n hx hb dX12_doClaim_155 rfl (lv_at hl 5 rfl) ?_
                    refine lv_sipush (v := 230) hx hb dX12_doClaim_156 (by decide) ?_
                    refine lv_iadd hx hb dX12_doClaim_159 ?_
                    refine lv_topi (fun x_150 ex_150 => ?_)
                    refine lv_bipush (v := 60) hx hb dX12_doClaim_160 (by decide) ?_
                    refine lv_iload hx hb dX12_doClaim_162 (lv_at hl 1 rfl) ?_
                    refine lv_imul hx hb dX12_doClaim_164 ?_
                    refine lv_topi (fun x_151 ex_151 => ?_)
                    refine lv_iadd hx hb dX12_doClaim_165 ?_
                    refine lv_topi (fun x_152 ex_152 => ?_)
                    refine lv_iload hx hb dX12_doClaim_166 (lv_at hl 0 rfl) ?_
                    refine lv_iadd hx hb dX12_doClaim_168 ?_
                    refine lv_topi (fun x_153 ex_153 => ?_)
                    have hi_hr_154 : zEq x_153.toInt (x1.toInt + 60 * y_76.toInt + y_85.toInt + 230) := by
                      obtain ⟨f_150, l_150, u_150⟩ := z_add ex_150 rfl ti_230
                      try replace f_150 : x_150.toInt = x1.toInt + 230 := by omega
                      clear l_150 u_150
                      have g_155 := z_rng y_76
                      obtain ⟨f_151, l_151, u_151⟩ := z_mul ex_151 ti_60 rfl
                      try replace f_151 : x_151.toInt = 60 * y_76.toInt := by omega
                      clear l_151 u_151
                      obtain ⟨f_152, l_152, u_152⟩ := z_add ex_152 rfl rfl
                      try replace f_152 : x_152.toInt = x_150.toInt + x_151.toInt := by omega
                      clear l_152 u_152
                      have g_156 := z_rng y_85
                      obtain ⟨f_153, l_153, u_153⟩ := z_add ex_153 rfl rfl
                      try replace f_153 : x_153.toInt = x_152.toInt + y_85.toInt := by omega
                      clear l_153 u_153
                      show x_153.toInt = (x1.toInt + 60 * y_76.toInt + y_85.toInt + 230)
                      omega
                    have hl_hr_154 : 230 ≤ 60 * y_76.toInt + y_85.toInt + 230 ∧ 60 * y_76.toInt + y_85.toInt + 230 ≤ 469 := by
                      have g_157 := z_rng y_76
                      have g_158 := z_rng y_85
                      omega
                    have hid_hr_154 : (x1.toInt + 60 * y_76.toInt + y_85.toInt + 230) = x1.toInt + (60 * y_76.toInt + y_85.toInt + 230) := by simp only [Int.add_assoc, Int.add_sub_assoc]
                    have hr_154 := z_cell (lo := 170) (hi := 469) hp0 hi_hr_154 hid_hr_154 hl_hr_154 (by decide)
                    replace hid_hr_154 : zEq (x1.toInt + 60 * y_76.toInt + y_85.toInt + 230) (x1.toInt + (60 * y_76.toInt + y_85.toInt + 230)) := hid_hr_154
                    have hin_159 : vp_in x_153 (zn K (zr K a0 0)) := vp_in_iff.mpr (by rw [(hf_23.2.2 (by decide))]; exact hr_154.in)
                    refine mld_40 C hs hP hf_23.1 hf_23.2.1 hin_159 dX12_doClaim_169 ?_
                    have ep_160 : x_153.toNatClampNeg = (x1.toInt + 60 * y_76.toInt + y_85.toInt + 230).toNat := z_posE hi_hr_154
                    rw [ep_160]
                    obtain ⟨f_150, l_150, u_150⟩ := z_add ex_150 rfl ti_230
                    try replace f_150 : x_150.toInt = x1.toInt + 230 := by omega
                    clear l_150 u_150
                    have g_162 := z_rng y_76
                    obtain ⟨f_151, l_151, u_151⟩ := z_mul ex_151 ti_60 rfl
                    try replace f_151 : x_151.toInt = 60 * y_76.toInt := by omega
                    clear l_151 u_151
                    obtain ⟨f_152, l_152, u_152⟩ := z_add ex_152 rfl rfl
                    try replace f_152 : x_152.toInt = x_150.toInt + x_151.toInt := by omega
                    clear l_152 u_152
                    have g_163 := z_rng y_85
                    obtain ⟨f_153, l_153, u_153⟩ := z_add ex_153 rfl rfl
                    try replace f_153 : x_153.toInt = x_152.toInt + y_85.toInt := by omega
                    clear l_153 u_153
                    have hc_161 := FC_87 (x1.toInt + 60 * y_76.toInt + y_85.toInt + 230) (by omega) (by simp only [List.mem_cons, List.not_mem_nil, or_false, forall_eq_or_imp, forall_eq]; omega)
                    have ev_164 : A_87 40 (x1.toInt + 60 * y_76.toInt + y_85.toInt + 230).toNat = A 40 (x1.toInt + 60 * y_76.toInt + y_85.toInt + 230).toNat := by rw [hc_161]
                    have tv_165 := rv_170 hT hr_154
                    rw [ep_160] at tv_165
                    rw [ev_164] at tv_165
                    rw [ev_164]
                    refine lv_iadd hx hb dX12_doClaim_170 ?_
                    refine lv_topi (fun x_166 ex_166 => ?_)
                    refine lv_bipush (v := 6) hx hb dX12_doClaim_171 (by decide) ?_
                    refine lv_iload_n hx hb dX12_doClaim_173 rfl (lv_at hl 7 rfl) ?_
                    refine lv_iadd hx hb dX12_doClaim_174 ?_
                    refine lv_topi (fun x_167 ex_167 => ?_)
                    have hi_hr_168 : zEq x_166.toInt (x1.toInt + (A 40 (x1.toInt + 60 * y_76.toInt + y_85.toInt + 230).toNat).toInt + 110) := by
                      obtain ⟨f_149, l_149, u_149⟩ := z_add ex_149 rfl ti_110
                      try replace f_149 : x_149.toInt = x1.toInt + 110 := by omega
                      clear l_149 u_149
                      have g_169 := z_rng (A 40 (x1.toInt + 60 * y_76.toInt + y_85.toInt + 230).toNat)
                      obtain ⟨f_166, l_166, u_166⟩ := z_add ex_166 rfl rfl
                      try replace f_166 : x_166.toInt = x_149.toInt + (A 40 (x1.toInt + 60 * y_76.toInt + y_85.toInt + 230).toNat).toInt := by omega
                      clear l_166 u_166
                      show x_166.toInt = (x1.toInt + (A 40 (x1.toInt + 60 * y_76.toInt + y_85.toInt + 230).toNat).toInt + 110)
                      omega
                    have hl_hr_168 : 110 ≤ (A 40 (x1.toInt + 60 * y_76.toInt + y_85.toInt + 230).toNat).toInt + 110 ∧ (A 40 (x1.toInt + 60 * y_76.toInt + y_85.toInt + 230).toNat).toInt + 110 ≤ 169 := by
                      have g_170 := z_rng (A 40 (x1.toInt + 60 * y_76.toInt + y_85.toInt + 230).toNat)
                      omega
                    have hid_hr_168 : (x1.toInt + (A 40 (x1.toInt + 60 * y_76.toInt + y_85.toInt + 230).toNat).toInt + 110) = x1.toInt + ((A 40 (x1.toInt + 60 * y_76.toInt + y_85.toInt + 230).toNat).toInt + 110) := by simp only [Int.add_assoc, Int.add_sub_assoc]
                    have hr_168 := z_cell (lo := 45) (hi := 169) hp0 hi_hr_168 hid_hr_168 hl_hr_168 (by decide)
                    replace hid_hr_168 : zEq (x1.toInt + (A 40 (x1.toInt + 60 * y_76.toInt + y_85.toInt + 230).toNat).toInt + 110) (x1.toInt + ((A 40 (x1.toInt + 60 * y_76.toInt + y_85.toInt + 230).toNat).toInt + 110)) := hid_hr_168
                    have hin_171 : vp_in x_166 (zn K (zr K a0 0)) := vp_in_iff.mpr (by rw [(hf_23.2.2 (by decide))]; exact hr_168.in)
                    refine mst_40 C hM hs hP hS hf_23.1 hT hf_23.2.1 hin_171 (tp_45 hr_168) dX12_doClaim_175 (fun A_172 H locs hE_172 hT hP hS => ?_)
                    have ep_173 : x_166.toNatClampNeg = (x1.toInt + (A 40 (x1.toInt + 60 * y_76.toInt + y_85.toInt + 230).toNat).toInt + 110).toNat := z_posE hi_hr_168
                    rw [ep_173] at hE_172
                    have FA := frA FA (frAu hE_172) (by decide)
                    have FC := fC.tr FC (fC.st (b := x1.toInt) (lo := 110) (hi := 169) hE_172 hb0.1 (by decide) hid_hr_168 hl_hr_168) (by decide)
                    obtain ⟨f_167, l_167, u_167⟩ := z_add ex_167 ti_6 rfl
                    try replace f_167 : x_167.toInt = 6 + x3.toInt := by omega
                    clear l_167 u_167
                    have WZ := wz.st WZ hE_172 (Or.inl (by omega))
                    obtain ⟨x_174, ex_174⟩ : ∃ y : Int32, y = y_85 + 1 := ⟨_, rfl⟩
                    refine lv_iinc (v := x_174) (lv' := [(8, .int x_174), (7, .int y_76), (6, .int x_22), (5, .int y_2), (0, .ref a0), (1, .int x1), (2, .int x2), (3, .int x3), (4, .int x4)]) hx hb dX12_doClaim_176 hl (k := 0) rfl (by rw [ex_174]; rfl) (by decide) rfl (fun ls hl => ?_)
                    refine lv_goto (tgt := 126) hx hb dX12_doClaim_179 (by decide) ?_
                    obtain ⟨f_174, l_174, u_174⟩ := z_add ex_174 rfl ti_1
                    try replace f_174 : x_174.toInt = y_85.toInt + 1 := by omega
                    clear l_174 u_174
                    have g_175 := z_rng (A_87 40 (x1.toInt + y_76.toInt + 22).toNat)
                    have fq_176 : fC (A 40) (A_172 40) x1.toInt ([(15, 18), (22, 25), (110, 169)] : List (Int × Int)) := fun j hj hh => by
                      have h9 := hh
                      simp only [List.mem_cons, List.not_mem_nil, or_false, forall_eq_or_imp, forall_eq] at h9
                      rw [hE_172, va_up_self, pk_un (show j.toNat ≠ (x1.toInt + (A 40 (x1.toInt + 60 * y_76.toInt + y_85.toInt + 230).toNat).toInt + 110).toNat by omega)]
                      exact iv_87_1 j hj hh
                    have rq_177 : ∀ j : Int, x1.toInt + 22 ≤ j → j ≤ x1.toInt + 25 → A_172 40 j.toNat = A_87 40 j.toNat := fun j h1 h2 => by rw [hE_172, va_up_self, pk_un (show j.toNat ≠ (x1.toInt + (A 40 (x1.toInt + 60 * y_76.toInt + y_85.toInt + 230).toNat).toInt + 110).toNat by omega)]
                    exact ih_86 A_172 _ _ x_174 _ (by omega) (by omega) fq_176 (fun q9 h1 h2 => by rw [rq_177 (x1.toInt + q9 + 22) (by omega) (by omega)]; exact iv_87_2 q9 h1 h2) FA FC WZ hT hP hS (lv_sub hl [0, 1, 2, 3, 4, 5, 6, 7, 8] rfl)
              have g_178 := z_rng y_76
              exact L_126_86 _ A_78 _ _ 0 _ (Nat.lt_succ_self _) (by (try simp only [ti_0]); omega) iv_78_1 iv_78_2 FA FC WZ hT hP hS (lv_sub hl [0, 1, 2, 3, 4, 5, 6, 7, 8] rfl)
        have g_179 := z_rng y_1
        have fq_180 : fC (A 40) (A_74 40) x1.toInt ([(15, 18), (22, 25), (110, 169)] : List (Int × Int)) := fun j hj hh => by
          have h9 := hh
          simp only [List.mem_cons, List.not_mem_nil, or_false, forall_eq_or_imp, forall_eq] at h9
          rw [hE_74, va_up_self, pk_un (show j.toNat ≠ (x1.toInt + -1 * x3.toInt + 18).toNat by omega)]
          rw [hE_62, va_up_self, pk_un (show j.toNat ≠ (x1.toInt + -1 * x3.toInt + 16).toNat by omega)]
          rw [hE_52, va_up_self, pk_un (show j.toNat ≠ (x1.toInt + x3.toInt + 17).toNat by omega)]
          rw [hE_35, va_up_self, pk_un (show j.toNat ≠ (x1.toInt + x3.toInt + 15).toNat by omega)]
        have rq_181 : ∀ j : Int, x1.toInt + 22 ≤ j → j ≤ x1.toInt + 25 → A_74 40 j.toNat = A 40 j.toNat := fun j h1 h2 => by rw [hE_74, va_up_self, pk_un (show j.toNat ≠ (x1.toInt + -1 * x3.toInt + 18).toNat by omega), hE_62, va_up_self, pk_un (show j.toNat ≠ (x1.toInt + -1 * x3.toInt + 16).toNat by omega), hE_52, va_up_self, pk_un (show j.toNat ≠ (x1.toInt + x3.toInt + 17).toNat by omega), hE_35, va_up_self, pk_un (show j.toNat ≠ (x1.toInt + x3.toInt + 15).toNat by omega)]
        exact L_117_77 _ A_74 _ _ 0 _ (Nat.lt_succ_self _) (by (try simp only [ti_0]); omega) fq_180 (fun q9 h1 h2 => by rw [rq_181 (x1.toInt + q9 + 22) (by omega) (by omega)]; exact Int.le_refl _) FA FC WZ hT hP hS (lv_sub hl [0, 1, 2, 3, 4, 5, 6, 7] rfl)
      · skip
        refine lv_iload hx hb dX12_doClaim_12 (lv_at hl 1 rfl) ?_
        refine lv_aload_n hx hb dX12_doClaim_14 rfl (lv_at hl 2 rfl) ?_
        refine mg_0 C hs hP ha0 hk0 wf_X12_8 dX12_doClaim_15 ?_
        have hf_182 := hO.r (j := 0) ha0 hk0 (rfl : zX 11 0 = some (40, 47730))
        refine lv_iload_n hx hb dX12_doClaim_18 rfl (lv_at hl 3 rfl) ?_
        refine lv_bipush (v := 22) hx hb dX12_doClaim_19 (by decide) ?_
        refine lv_iadd hx hb dX12_doClaim_21 ?_
        refine lv_topi (fun x_183 ex_183 => ?_)
        refine lv_iload hx hb dX12_doClaim_22 (lv_at hl 0 rfl) ?_
        refine lv_iadd hx hb dX12_doClaim_24 ?_
        refine lv_topi (fun x_184 ex_184 => ?_)
        have hi_hr_185 : zEq x_184.toInt (x1.toInt + y_1.toInt + 22) := by
          have g_186 := z_rng x1
          obtain ⟨f_183, l_183, u_183⟩ := z_add ex_183 rfl ti_22
          try replace f_183 : x_183.toInt = x1.toInt + 22 := by omega
          clear l_183 u_183
          have g_187 := z_rng y_1
          obtain ⟨f_184, l_184, u_184⟩ := z_add ex_184 rfl rfl
          try replace f_184 : x_184.toInt = x_183.toInt + y_1.toInt := by omega
          clear l_184 u_184
          show x_184.toInt = (x1.toInt + y_1.toInt + 22)
          omega
        have hl_hr_185 : 22 ≤ y_1.toInt + 22 ∧ y_1.toInt + 22 ≤ 25 := by
          have g_188 := z_rng x1
          have g_189 := z_rng y_1
          omega
        have hid_hr_185 : (x1.toInt + y_1.toInt + 22) = x1.toInt + (y_1.toInt + 22) := by simp only [Int.add_assoc, Int.add_sub_assoc]
        have hr_185 := z_cell (lo := 22) (hi := 25) hp0 hi_hr_185 hid_hr_185 hl_hr_185 (by decide)
        replace hid_hr_185 : zEq (x1.toInt + y_1.toInt + 22) (x1.toInt + (y_1.toInt + 22)) := hid_hr_185
        have hin_190 : vp_in x_184 (zn K (zr K a0 0)) := vp_in_iff.mpr (by rw [(hf_182.2.2 (by decide))]; exact hr_185.in)
        refine mld_40 C hs hP hf_182.1 hf_182.2.1 hin_190 dX12_doClaim_25 ?_
        have ep_191 : x_184.toNatClampNeg = (x1.toInt + y_1.toInt + 22).toNat := z_posE hi_hr_185
        rw [ep_191]
        have tv_192 := rv_22 hT hr_185
        rw [ep_191] at tv_192
        refine zcS (zrS (As := [.int y_2, .int (A 40 (x1.toInt + y_1.toInt + 22).toNat)]) (rest := []) C hs hP hS (c_X12_most l D K hM f A hT y_2 (A 40 (x1.toInt + y_1.toInt + 22).toNat)) m_X12_most wm_X12_247 ⟨by decide, by decide⟩ hl.1 (Nat.le_of_ble_eq_true rfl) dX12_doClaim_26) (fun x_193 p_193 => ?_)
        have pp_193 : y_2.toInt ≤ x_193.toInt ∧ (A 40 (x1.toInt + y_1.toInt + 22).toNat).toInt ≤ x_193.toInt ∧ (x_193.toInt = y_2.toInt ∨ x_193.toInt = (A 40 (x1.toInt + y_1.toInt + 22).toNat).toInt) := p_193
        have g_194 := z_rng y_2
        have g_195 := z_rng (A 40 (x1.toInt + y_1.toInt + 22).toNat)
        refine lv_istore (lv' := [(5, .int x_193), (6, .int y_1), (0, .ref a0), (1, .int x1), (2, .int x2), (3, .int x3), (4, .int x4)]) hx hb dX12_doClaim_29 hl (by decide) rfl (fun ls hl => ?_)
        obtain ⟨x_196, ex_196⟩ : ∃ y : Int32, y = y_1 + 1 := ⟨_, rfl⟩
        refine lv_iinc (v := x_196) (lv' := [(6, .int x_196), (5, .int x_193), (0, .ref a0), (1, .int x1), (2, .int x2), (3, .int x3), (4, .int x4)]) hx hb dX12_doClaim_31 hl (k := 1) rfl (by rw [ex_196]; rfl) (by decide) rfl (fun ls hl => ?_)
        refine lv_goto (tgt := 6) hx hb dX12_doClaim_34 (by decide) ?_
        have g_197 := z_rng y_1
        obtain ⟨f_196, l_196, u_196⟩ := z_add ex_196 rfl ti_1
        try replace f_196 : x_196.toInt = y_1.toInt + 1 := by omega
        clear l_196 u_196
        exact ih_3 x_196 x_193 _ (by omega) (by omega) (lv_sub hl [0, 1, 2, 3, 4, 5, 6] rfl)
  exact L_6_3 _ 0 0 _ (Nat.lt_succ_self _) (by (try simp only [ti_0]); omega) (lv_sub hl [0, 1, 2, 3, 4, 5, 6] rfl)
