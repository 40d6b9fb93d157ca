set_option maxHeartbeats 4000000 in
set_option maxRecDepth 100000 in
theorem c_X12_doLay (l : Launch) (D : va_G) (K : zK) (hM : mK K) (f : Nat → Int32) (A : Nat → Nat → Int32) (hT : mT f A) (a0 : Nat) (ha0 : a0 ∈ zl K) (hk0 : zk K a0 = 11) (x1 : Int32) (x2 : Int32) (x3 : Int32) (x4 : Int32) (hp0 : zRow x1.toInt) (hp1 : 0 ≤ x3.toInt ∧ x3.toInt ≤ 3) (hp2 : 0 ≤ x4.toInt ∧ x4.toInt < (A 40 (x1.toInt + x3.toInt + 22).toNat).toInt) (hp3 : rowP (A 40) x1.toInt) (hp4 : nL (A 40) x1.toInt x3.toInt (A 40 (x1.toInt + 26).toNat).toInt) (hp5 : (f 11).toInt ≤ 1950000000) (hp6 : (f 9).toInt ≤ 1950000000) : Met l yX12_doLay (zc yX12_doLay cX12_doLay 7 none) (rmd 5) (va_Pc [.ref a0, .int x1, .int x2, .int x3, .int x4] (zB D K (mV K f A))) (mQv D K (fun f' A' => mT f' A' ∧ (∀ k, k ∉ ([40, 48, 50, 53, 55] : List Nat) → A' k = A k) ∧ (∀ k, k ∉ ([9, 11, 14, 16] : List Nat) → f' k = f k) ∧ fC (A 40) (A' 40) x1.toInt ([(5, 5), (9, 9), (14, 14), (15, 18), (19, 19), (20, 20), (22, 25), (26, 26), (27, 30), (31, 34), (39, 42), (43, 43), (110, 169), (230, 469), (470, 529), (530, 589), (590, 649), (650, 709), (710, 769), (770, 829), (830, 889)] : List (Int × Int)) ∧ wz (A 40) (A' 40) x1.toInt ∧ (f 9).toInt ≤ (f' 9).toInt ∧ (f' 9).toInt ≤ (f 9).toInt + 2 ∧ (f 11).toInt ≤ (f' 11).toInt ∧ (f' 11).toInt ≤ (f 11).toInt + 13 ∧ ((f 12).toInt ≠ 0 → (f' 11).toInt = (f 11).toInt) ∧ rowN (A' 40) x1.toInt)) 0 0 (zA K) := by
  refine zin (by decide) (Nat.le_of_ble_eq_true rfl) ?_
  intro p e s m args below meth c ls Q hQ C hr hlk hP hs hl
  have C : CallFix p m c cX12_doLay 7 s args zw RX12 := C
  obtain ⟨hx, hb, hml, hown, hts⟩ := id C
  have hO := hM.1
  have hS : va_S (zA K) s.heap s.heap [] := va_S.rf
  have FA : ∀ k, k ∉ ([40, 48, 50, 53, 55] : List Nat) → A k = A k := fun _ _ => rfl
  have FF : ∀ k, k ∉ ([9, 11, 14, 16] : List Nat) → f k = f k := fun _ _ => rfl
  have FC : fC (A 40) (A 40) x1.toInt ([(5, 5), (9, 9), (14, 14), (15, 18), (19, 19), (20, 20), (22, 25), (26, 26), (27, 30), (31, 34), (39, 42), (43, 43), (110, 169), (230, 469), (470, 529), (530, 589), (590, 649), (650, 709), (710, 769), (770, 829), (830, 889)] : List (Int × Int)) := fun _ _ _ => rfl
  have WZ : wz (A 40) (A 40) x1.toInt := wz.rf
  have hl : lv_has ls 7 [(0, .ref a0), (1, .int x1), (2, .int x2), (3, .int x3), (4, .int x4)] := hl
  have hb0 := hp0.lin
  have tR0 := hT.row hp0
  have hSn := hS_nn (A 40) x1.toInt
  have t21 := tR0.p21
  have t26 := tR0.p26
  have t20 := tR0.p20
  have t43 := tR0.p43
  have hrs := hp3.1
  unfold rS at hrs
  have hSg := hS_ge (C := A 40) (b := x1.toInt) hp1
  have hmx := mx_le (hd (A 40) x1.toInt x3.toInt)
  have hhd : hd (A 40) x1.toInt x3.toInt = (A 40 (x1.toInt + x3.toInt + 22).toNat).toInt := rfl
  have h22 := tR0.p22 x3.toInt hp1.1 hp1.2
  have hly := dL.lt hp3.2.1 hp1 hp4 tR0.p31
  refine lv_aload_n hx hb dX12_doLay_0 rfl (lv_at hl 0 rfl) ?_
  refine mg_0 C hs hP ha0 hk0 wf_X12_8 dX12_doLay_1 ?_
  have hf_1 := hO.r (j := 0) ha0 hk0 (rfl : zX 11 0 = some (40, 47730))
  refine lv_iload_n hx hb dX12_doLay_4 rfl (lv_at hl 1 rfl) ?_
  refine lv_sipush (v := 230) hx hb dX12_doLay_5 (by decide) ?_
  refine lv_iadd hx hb dX12_doLay_8 ?_
  refine lv_topi (fun x_2 ex_2 => ?_)
  refine lv_bipush (v := 60) hx hb dX12_doLay_9 (by decide) ?_
  refine lv_iload_n hx hb dX12_doLay_11 rfl (lv_at hl 3 rfl) ?_
  refine lv_imul hx hb dX12_doLay_12 ?_
  refine lv_topi (fun x_3 ex_3 => ?_)
  refine lv_iadd hx hb dX12_doLay_13 ?_
  refine lv_topi (fun x_4 ex_4 => ?_)
  refine lv_iload hx hb dX12_doLay_14 (lv_at hl 4 rfl) ?_
  refine lv_iadd hx hb dX12_doLay_16 ?_
  refine lv_topi (fun x_5 ex_5 => ?_)
  have hi_hr_6 : zEq x_5.toInt (x1.toInt + 60 * x3.toInt + x4.toInt + 230) := by
    have g_7 := z_rng x1
    obtain ⟨f_2, l_2, u_2⟩ := z_add ex_2 rfl ti_230
    try replace f_2 : x_2.toInt = x1.toInt + 230 := by omega
    clear l_2 u_2
    have g_8 := z_rng x3
    obtain ⟨f_3, l_3, u_3⟩ := z_mul ex_3 ti_60 rfl
    try replace f_3 : x_3.toInt = 60 * x3.toInt := by omega
    clear l_3 u_3
    obtain ⟨f_4, l_4, u_4⟩ := z_add ex_4 rfl rfl
    try replace f_4 : x_4.toInt = x_2.toInt + x_3.toInt := by omega
    clear l_4 u_4
    have g_9 := z_rng x4
    obtain ⟨f_5, l_5, u_5⟩ := z_add ex_5 rfl rfl
    try replace f_5 : x_5.toInt = x_4.toInt + x4.toInt := by omega
    clear l_5 u_5
    show x_5.toInt = (x1.toInt + 60 * x3.toInt + x4.toInt + 230)
    omega
  have hl_hr_6 : 230 ≤ 60 * x3.toInt + x4.toInt + 230 ∧ 60 * x3.toInt + x4.toInt + 230 ≤ 469 := by
    have g_10 := z_rng x1
    have g_11 := z_rng x3
    have g_12 := z_rng x4
    omega
  have hid_hr_6 : (x1.toInt + 60 * x3.toInt + x4.toInt + 230) = x1.toInt + (60 * x3.toInt + x4.toInt + 230) := by simp only [Int.add_assoc, Int.add_sub_assoc]
  have hr_6 := z_cell (lo := 170) (hi := 469) hp0 hi_hr_6 hid_hr_6 hl_hr_6 (by decide)
  replace hid_hr_6 : zEq (x1.toInt + 60 * x3.toInt + x4.toInt + 230) (x1.toInt + (60 * x3.toInt + x4.toInt + 230)) := hid_hr_6
  have hin_13 : vp_in x_5 (zn K (zr K a0 0)) := vp_in_iff.mpr (by rw [(hf_1.2.2 (by decide))]; exact hr_6.in)
  refine mld_40 C hs hP hf_1.1 hf_1.2.1 hin_13 dX12_doLay_17 ?_
  have ep_14 : x_5.toNatClampNeg = (x1.toInt + 60 * x3.toInt + x4.toInt + 230).toNat := z_posE hi_hr_6
  rw [ep_14]
  have tv_15 := rv_170 hT hr_6
  rw [ep_14] at tv_15
  refine lv_istore (lv' := [(5, .int (A 40 (x1.toInt + 60 * x3.toInt + x4.toInt + 230).toNat)), (0, .ref a0), (1, .int x1), (2, .int x2), (3, .int x3), (4, .int x4)]) hx hb dX12_doLay_18 hl (by decide) rfl (fun ls hl => ?_)
  refine lv_aload_n hx hb dX12_doLay_20 rfl (lv_at hl 1 rfl) ?_
  refine mg_0 C hs hP ha0 hk0 wf_X12_8 dX12_doLay_21 ?_
  refine lv_iload_n hx hb dX12_doLay_24 rfl (lv_at hl 2 rfl) ?_
  refine lv_bipush (v := 22) hx hb dX12_doLay_25 (by decide) ?_
  refine lv_iadd hx hb dX12_doLay_27 ?_
  refine lv_topi (fun x_16 ex_16 => ?_)
  refine lv_iload_n hx hb dX12_doLay_28 rfl (lv_at hl 4 rfl) ?_
  refine lv_iadd hx hb dX12_doLay_29 ?_
  refine lv_topi (fun x_17 ex_17 => ?_)
  refine lv_dup2_11 hx hb dX12_doLay_30 rfl rfl ?_
  have hi_hr_18 : zEq x_17.toInt (x1.toInt + x3.toInt + 22) := by
    have g_19 := z_rng x1
    obtain ⟨f_16, l_16, u_16⟩ := z_add ex_16 rfl ti_22
    try replace f_16 : x_16.toInt = x1.toInt + 22 := by omega
    clear l_16 u_16
    have g_20 := z_rng x3
    obtain ⟨f_17, l_17, u_17⟩ := z_add ex_17 rfl rfl
    try replace f_17 : x_17.toInt = x_16.toInt + x3.toInt := by omega
    clear l_17 u_17
    show x_17.toInt = (x1.toInt + x3.toInt + 22)
    omega
  have hl_hr_18 : 22 ≤ x3.toInt + 22 ∧ x3.toInt + 22 ≤ 25 := by
    have g_21 := z_rng x1
    have g_22 := z_rng x3
    omega
  have hid_hr_18 : (x1.toInt + x3.toInt + 22) = x1.toInt + (x3.toInt + 22) := by simp only [Int.add_assoc, Int.add_sub_assoc]
  have hr_18 := z_cell (lo := 22) (hi := 25) hp0 hi_hr_18 hid_hr_18 hl_hr_18 (by decide)
  replace hid_hr_18 : zEq (x1.toInt + x3.toInt + 22) (x1.toInt + (x3.toInt + 22)) := hid_hr_18
  have hin_23 : vp_in x_17 (zn K (zr K a0 0)) := vp_in_iff.mpr (by rw [(hf_1.2.2 (by decide))]; exact hr_18.in)
  refine mld_40 C hs hP hf_1.1 hf_1.2.1 hin_23 dX12_doLay_31 ?_
  have ep_24 : x_17.toNatClampNeg = (x1.toInt + x3.toInt + 22).toNat := z_posE hi_hr_18
  rw [ep_24]
  have tv_25 := rv_22 hT hr_18
  rw [ep_24] at tv_25
  refine lv_iconst (v := 1) hx hb dX12_doLay_32 (by decide) ?_
  refine lv_isub hx hb dX12_doLay_33 ?_
  refine lv_topi (fun x_26 ex_26 => ?_)
  have hin_27 : vp_in x_17 (zn K (zr K a0 0)) := vp_in_iff.mpr (by rw [(hf_1.2.2 (by decide))]; exact hr_18.in)
  have g_29 := z_rng (A 40 (x1.toInt + x3.toInt + 22).toNat)
  obtain ⟨f_26, l_26, u_26⟩ := z_sub ex_26 rfl ti_1
  try replace f_26 : x_26.toInt = (A 40 (x1.toInt + x3.toInt + 22).toNat).toInt - 1 := by omega
  clear l_26 u_26
  refine mst_40 C hM hs hP hS hf_1.1 hT hf_1.2.1 hin_27 (tp_22 hr_18 (show -1 ≤ x_26.toInt ∧ x_26.toInt ≤ 60 from by omega)) dX12_doLay_34 (fun A_28 H locs hE_28 hT hP hS => ?_)
  have ep_30 : x_17.toNatClampNeg = (x1.toInt + x3.toInt + 22).toNat := z_posE hi_hr_18
  rw [ep_30] at hE_28
  have FA := frA FA (frAu hE_28) (by decide)
  have FC := fC.tr FC (fC.st (b := x1.toInt) (lo := 22) (hi := 25) hE_28 hb0.1 (by decide) hid_hr_18 hl_hr_18) (by decide)
  have WZ := wz.st WZ hE_28 (Or.inr ⟨by omega, by omega, Or.inl (by omega)⟩)
  refine lv_iload hx hb dX12_doLay_35 (lv_at hl 5 rfl) ?_
  refine lv_istore (lv' := [(6, .int x4), (5, .int (A 40 (x1.toInt + 60 * x3.toInt + x4.toInt + 230).toNat)), (0, .ref a0), (1, .int x1), (2, .int x2), (3, .int x3), (4, .int x4)]) hx hb dX12_doLay_37 hl (by decide) rfl (fun ls hl => ?_)
  have L_39_32 : ∀ (n_32 : Nat) (A_33 : Nat → Nat → Int32) (H : Heap) (locs : List Loc) (y_31 : Int32) (ls : Array Slot), (2147483648 - y_31.toInt).toNat < n_32 → x4.toInt ≤ y_31.toInt → fC (A 40) (A_33 40) x1.toInt ([(22, 25), (230, 469)] : List (Int × Int)) → (A_33 40 (x1.toInt + x3.toInt + 22).toNat).toInt = (A 40 (x1.toInt + x3.toInt + 22).toNat).toInt - 1 → (∀ q : Int, 0 ≤ q → q ≤ 3 → q ≠ x3.toInt → A_33 40 (x1.toInt + q + 22).toNat = A 40 (x1.toInt + q + 22).toNat) → (∀ k, k ∉ ([40, 48, 50, 53, 55] : List Nat) → A_33 k = A k) → fC (A 40) (A_33 40) x1.toInt ([(5, 5), (9, 9), (14, 14), (15, 18), (19, 19), (20, 20), (22, 25), (26, 26), (27, 30), (31, 34), (39, 42), (43, 43), (110, 169), (230, 469), (470, 529), (530, 589), (590, 649), (650, 709), (710, 769), (770, 829), (830, 889)] : List (Int × Int)) → wz (A 40) (A_33 40) x1.toInt → mT f A_33 → va_P D vwCl (zW K (mV K f A_33)) H → va_S (zA K) s.heap H locs → lv_has ls 7 [(6, .int y_31), (5, .int (A 40 (x1.toInt + 60 * x3.toInt + x4.toInt + 230).toNat)), (0, .ref a0), (1, .int x1), (2, .int x2), (3, .int x3), (4, .int x4)] → W p l e (rmd 5) s m args below meth c H locs 0 0 Q (F0 m 39 ls []) := by
    intro n_32
    induction n_32 with
    | zero => intro A_33 H locs y_31 ls hm_32; exact absurd hm_32 (Nat.not_lt_zero _)
    | succ n_32 ih_32 =>
      intro A_33 H locs y_31 ls hm_32 iv_33_0 iv_33_1 iv_33_2 iv_33_3 FA_33 FC_33 WZ_33 hT hP hS hl
      have FA := FA_33
      have FC := FC_33
      have WZ := WZ_33
      have e20q := iv_33_1.ar hb0.1 (lo := 20) (hi := 20) (by decide) (x1.toInt + 20) (by decide) (by omega) (by omega)
      have e20i := congrArg Int32.toInt e20q
      have e21q := iv_33_1.ar hb0.1 (lo := 21) (hi := 21) (by decide) (x1.toInt + 21) (by decide) (by omega) (by omega)
      have e21i := congrArg Int32.toInt e21q
      have e26q := iv_33_1.ar hb0.1 (lo := 26) (hi := 26) (by decide) (x1.toInt + 26) (by decide) (by omega) (by omega)
      have e26i := congrArg Int32.toInt e26q
      have e43q := iv_33_1.ar hb0.1 (lo := 43) (hi := 43) (by decide) (x1.toInt + 43) (by decide) (by omega) (by omega)
      have e43i := congrArg Int32.toInt e43q
      refine lv_iload hx hb dX12_doLay_39 (lv_at hl 0 rfl) ?_
      refine lv_aload_n hx hb dX12_doLay_41 rfl (lv_at hl 2 rfl) ?_
      refine mg_0 C hs hP ha0 hk0 wf_X12_8 dX12_doLay_42 ?_
      refine lv_iload_n hx hb dX12_doLay_45 rfl (lv_at hl 3 rfl) ?_
      refine lv_bipush (v := 22) hx hb dX12_doLay_46 (by decide) ?_
      refine lv_iadd hx hb dX12_doLay_48 ?_
      refine lv_topi (fun x_35 ex_35 => ?_)
      refine lv_iload_n hx hb dX12_doLay_49 rfl (lv_at hl 5 rfl) ?_
      refine lv_iadd hx hb dX12_doLay_50 ?_
      refine lv_topi (fun x_36 ex_36 => ?_)
      have hi_hr_37 : zEq x_36.toInt (x1.toInt + x3.toInt + 22) := by
        have g_38 := z_rng x1
        obtain ⟨f_35, l_35, u_35⟩ := z_add ex_35 rfl ti_22
        try replace f_35 : x_35.toInt = x1.toInt + 22 := by omega
        clear l_35 u_35
        have g_39 := z_rng x3
        obtain ⟨f_36, l_36, u_36⟩ := z_add ex_36 rfl rfl
        try replace f_36 : x_36.toInt = x_35.toInt + x3.toInt := by omega
        clear l_36 u_36
        show x_36.toInt = (x1.toInt + x3.toInt + 22)
        omega
      have hl_hr_37 : 22 ≤ x3.toInt + 22 ∧ x3.toInt + 22 ≤ 25 := by
        have g_40 := z_rng x1
        have g_41 := z_rng x3
        omega
      have hid_hr_37 : (x1.toInt + x3.toInt + 22) = x1.toInt + (x3.toInt + 22) := by simp only [Int.add_assoc, Int.add_sub_assoc]
      have hr_37 := z_cell (lo := 22) (hi := 25) hp0 hi_hr_37 hid_hr_37 hl_hr_37 (by decide)
      replace hid_hr_37 : zEq (x1.toInt + x3.toInt + 22) (x1.toInt + (x3.toInt + 22)) := hid_hr_37
      have hin_42 : vp_in x_36 (zn K (zr K a0 0)) := vp_in_iff.mpr (by rw [(hf_1.2.2 (by decide))]; exact hr_37.in)
      refine mld_40 C hs hP hf_1.1 hf_1.2.1 hin_42 dX12_doLay_51 ?_
      have ep_43 : x_36.toNatClampNeg = (x1.toInt + x3.toInt + 22).toNat := z_posE hi_hr_37
      rw [ep_43]
      have tv_44 := rv_22 hT hr_37
      rw [ep_43] at tv_44
      refine bi_ge (tgt := 99) hx hb rfl rfl dX12_doLay_52 (by decide) (fun c_45 => ?_) (fun c_45 => ?_)
      · skip
        refine lv_aload_n hx hb dX12_doLay_99 rfl (lv_at hl 2 rfl) ?_
        refine mg_17 C hs hP ha0 hk0 wf_X12_198 dX12_doLay_100 ?_
        refine lv_iconst (v := 1) hx hb dX12_doLay_103 (by decide) ?_
        refine bi_ne (tgt := 208) hx hb rfl ti_1 dX12_doLay_104 (by decide) (fun c_81 => ?_) (fun c_81 => ?_)
        · skip
          refine lv_aload_n hx hb dX12_doLay_208 rfl (lv_at hl 2 rfl) ?_
          refine mg_0 C hs hP ha0 hk0 wf_X12_8 dX12_doLay_209 ?_
          refine lv_iload_n hx hb dX12_doLay_212 rfl (lv_at hl 3 rfl) ?_
          refine lv_bipush (v := 14) hx hb dX12_doLay_213 (by decide) ?_
          refine lv_iadd hx hb dX12_doLay_215 ?_
          refine lv_topi (fun x_82 ex_82 => ?_)
          refine lv_iconst (v := 1) hx hb dX12_doLay_216 (by decide) ?_
          have hi_hr_83 : zEq x_82.toInt (x1.toInt + 14) := by
            have g_84 := z_rng x1
            obtain ⟨f_82, l_82, u_82⟩ := z_add ex_82 rfl ti_14
            try replace f_82 : x_82.toInt = x1.toInt + 14 := by omega
            clear l_82 u_82
            show x_82.toInt = (x1.toInt + 14)
            omega
          have hl_hr_83 : (14 : Int) ≤ 14 ∧ 14 ≤ (14 : Int) := by decide
          have hid_hr_83 : (x1.toInt + 14) = x1.toInt + (14) := by simp only [Int.add_assoc, Int.add_sub_assoc]
          have hr_83 := z_cell (lo := 10) (hi := 19) hp0 hi_hr_83 hid_hr_83 hl_hr_83 (by decide)
          replace hid_hr_83 : zEq (x1.toInt + 14) (x1.toInt + (14)) := hid_hr_83
          have hin_85 : vp_in x_82 (zn K (zr K a0 0)) := vp_in_iff.mpr (by rw [(hf_1.2.2 (by decide))]; exact hr_83.in)
          refine mst_40 C hM hs hP hS hf_1.1 hT hf_1.2.1 hin_85 (tp_10 hr_83) dX12_doLay_217 (fun A_86 H locs hE_86 hT hP hS => ?_)
          have ep_87 : x_82.toNatClampNeg = (x1.toInt + 14).toNat := z_posE hi_hr_83
          rw [ep_87] at hE_86
          have FA := frA FA (frAu hE_86) (by decide)
          have FC := fC.tr FC (fC.st (b := x1.toInt) (lo := 14) (hi := 14) hE_86 hb0.1 (by decide) hid_hr_83 hl_hr_83) (by decide)
          have WZ := wz.st WZ hE_86 (Or.inr ⟨by omega, by omega, Or.inl (by omega)⟩)
          refine lv_aload_n hx hb dX12_doLay_218 rfl (lv_at hl 2 rfl) ?_
          refine mg_0 C hs hP ha0 hk0 wf_X12_8 dX12_doLay_219 ?_
          refine lv_iload_n hx hb dX12_doLay_222 rfl (lv_at hl 3 rfl) ?_
          refine lv_bipush (v := 27) hx hb dX12_doLay_223 (by decide) ?_
          refine lv_iadd hx hb dX12_doLay_225 ?_
          refine lv_topi (fun x_88 ex_88 => ?_)
          refine lv_aload_n hx hb dX12_doLay_226 rfl (lv_at hl 2 rfl) ?_
          refine mg_0 C hs hP ha0 hk0 wf_X12_8 dX12_doLay_227 ?_
          refine lv_iload_n hx hb dX12_doLay_230 rfl (lv_at hl 3 rfl) ?_
          refine lv_bipush (v := 26) hx hb dX12_doLay_231 (by decide) ?_
          refine lv_iadd hx hb dX12_doLay_233 ?_
          refine lv_topi (fun x_89 ex_89 => ?_)
          have hi_hr_90 : zEq x_89.toInt (x1.toInt + 26) := by
            have g_91 := z_rng x1
            obtain ⟨f_89, l_89, u_89⟩ := z_add ex_89 rfl ti_26
            try replace f_89 : x_89.toInt = x1.toInt + 26 := by omega
            clear l_89 u_89
            show x_89.toInt = (x1.toInt + 26)
            omega
          have hl_hr_90 : (26 : Int) ≤ 26 ∧ 26 ≤ (26 : Int) := by decide
          have hid_hr_90 : (x1.toInt + 26) = x1.toInt + (26) := by simp only [Int.add_assoc, Int.add_sub_assoc]
          have hr_90 := z_cell (lo := 26) (hi := 26) hp0 hi_hr_90 hid_hr_90 hl_hr_90 (by decide)
          replace hid_hr_90 : zEq (x1.toInt + 26) (x1.toInt + (26)) := hid_hr_90
          have hin_92 : vp_in x_89 (zn K (zr K a0 0)) := vp_in_iff.mpr (by rw [(hf_1.2.2 (by decide))]; exact hr_90.in)
          refine mld_40 C hs hP hf_1.1 hf_1.2.1 hin_92 dX12_doLay_234 ?_
          have ep_93 : x_89.toNatClampNeg = (x1.toInt + 26).toNat := z_posE hi_hr_90
          rw [ep_93]
          have g_95 := z_rng x1
          obtain ⟨f_89, l_89, u_89⟩ := z_add ex_89 rfl ti_26
          try replace f_89 : x_89.toInt = x1.toInt + 26 := by omega
          clear l_89 u_89
          obtain ⟨f_82, l_82, u_82⟩ := z_add ex_82 rfl ti_14
          try replace f_82 : x_82.toInt = x1.toInt + 14 := by omega
          clear l_82 u_82
          have hn_94 : (x1.toInt + 26).toNat ≠ (x1.toInt + 14).toNat := zNe (by omega) (by omega) (by omega)
          have ev_96 : A_86 40 (x1.toInt + 26).toNat = A_33 40 (x1.toInt + 26).toNat := by rw [hE_86, va_up_self, pk_un hn_94]
          have tv_97 := rv_26 hT hr_90
          rw [ep_93] at tv_97
          rw [ev_96] at tv_97
          rw [ev_96]
          refine lv_iadd hx hb dX12_doLay_235 ?_
          refine lv_topi (fun x_98 ex_98 => ?_)
          refine lv_iload hx hb dX12_doLay_236 (lv_at hl 1 rfl) ?_
          have hi_hr_99 : zEq x_98.toInt (x1.toInt + (A_33 40 (x1.toInt + 26).toNat).toInt + 27) := by
            obtain ⟨f_88, l_88, u_88⟩ := z_add ex_88 rfl ti_27
            try replace f_88 : x_88.toInt = x1.toInt + 27 := by omega
            clear l_88 u_88
            have g_100 := z_rng (A_33 40 (x1.toInt + 26).toNat)
            obtain ⟨f_98, l_98, u_98⟩ := z_add ex_98 rfl rfl
            try replace f_98 : x_98.toInt = x_88.toInt + (A_33 40 (x1.toInt + 26).toNat).toInt := by omega
            clear l_98 u_98
            show x_98.toInt = (x1.toInt + (A_33 40 (x1.toInt + 26).toNat).toInt + 27)
            omega
          have hl_hr_99 : 27 ≤ (A_33 40 (x1.toInt + 26).toNat).toInt + 27 ∧ (A_33 40 (x1.toInt + 26).toNat).toInt + 27 ≤ 30 := by
            have g_101 := z_rng (A_33 40 (x1.toInt + 26).toNat)
            omega
          have hid_hr_99 : (x1.toInt + (A_33 40 (x1.toInt + 26).toNat).toInt + 27) = x1.toInt + ((A_33 40 (x1.toInt + 26).toNat).toInt + 27) := by simp only [Int.add_assoc, Int.add_sub_assoc]
          have hr_99 := z_cell (lo := 27) (hi := 30) hp0 hi_hr_99 hid_hr_99 hl_hr_99 (by decide)
          replace hid_hr_99 : zEq (x1.toInt + (A_33 40 (x1.toInt + 26).toNat).toInt + 27) (x1.toInt + ((A_33 40 (x1.toInt + 26).toNat).toInt + 27)) := hid_hr_99
          have hin_102 : vp_in x_98 (zn K (zr K a0 0)) := vp_in_iff.mpr (by rw [(hf_1.2.2 (by decide))]; exact hr_99.in)
          have g_104 := z_rng (A 40 (x1.toInt + 60 * x3.toInt + x4.toInt + 230).toNat)
          refine mst_40 C hM hs hP hS hf_1.1 hT hf_1.2.1 hin_102 (tp_27 hr_99 (show 0 ≤ (A 40 (x1.toInt + 60 * x3.toInt + x4.toInt + 230).toNat).toInt ∧ (A 40 (x1.toInt + 60 * x3.toInt + x4.toInt + 230).toNat).toInt ≤ 59 from by omega)) dX12_doLay_238 (fun A_103 H locs hE_103 hT hP hS => ?_)
          have ep_105 : x_98.toNatClampNeg = (x1.toInt + (A_33 40 (x1.toInt + 26).toNat).toInt + 27).toNat := z_posE hi_hr_99
          rw [ep_105] at hE_103
          have FA := frA FA (frAu hE_103) (by decide)
          have FC := fC.tr FC (fC.st (b := x1.toInt) (lo := 27) (hi := 30) hE_103 hb0.1 (by decide) hid_hr_99 hl_hr_99) (by decide)
          have WZ := wz.st WZ hE_103 (Or.inr ⟨by omega, by omega, Or.inl (by omega)⟩)
          refine lv_aload_n hx hb dX12_doLay_239 rfl (lv_at hl 2 rfl) ?_
          refine mg_0 C hs hP ha0 hk0 wf_X12_8 dX12_doLay_240 ?_
          refine lv_iload_n hx hb dX12_doLay_243 rfl (lv_at hl 3 rfl) ?_
          refine lv_bipush (v := 31) hx hb dX12_doLay_244 (by decide) ?_
          refine lv_iadd hx hb dX12_doLay_246 ?_
          refine lv_topi (fun x_106 ex_106 => ?_)
          refine lv_aload_n hx hb dX12_doLay_247 rfl (lv_at hl 2 rfl) ?_
          refine mg_0 C hs hP ha0 hk0 wf_X12_8 dX12_doLay_248 ?_
          refine lv_iload_n hx hb dX12_doLay_251 rfl (lv_at hl 3 rfl) ?_
          refine lv_bipush (v := 26) hx hb dX12_doLay_252 (by decide) ?_
          refine lv_iadd hx hb dX12_doLay_254 ?_
          refine lv_topi (fun x_107 ex_107 => ?_)
          have hi_hr_108 : zEq x_107.toInt (x1.toInt + 26) := by
            obtain ⟨f_107, l_107, u_107⟩ := z_add ex_107 rfl ti_26
            try replace f_107 : x_107.toInt = x1.toInt + 26 := by omega
            clear l_107 u_107
            show x_107.toInt = (x1.toInt + 26)
            omega
          have hl_hr_108 : (26 : Int) ≤ 26 ∧ 26 ≤ (26 : Int) := by decide
          have hid_hr_108 : (x1.toInt + 26) = x1.toInt + (26) := by simp only [Int.add_assoc, Int.add_sub_assoc]
          have hr_108 := z_cell (lo := 26) (hi := 26) hp0 hi_hr_108 hid_hr_108 hl_hr_108 (by decide)
          replace hid_hr_108 : zEq (x1.toInt + 26) (x1.toInt + (26)) := hid_hr_108
          have hin_109 : vp_in x_107 (zn K (zr K a0 0)) := vp_in_iff.mpr (by rw [(hf_1.2.2 (by decide))]; exact hr_108.in)
          refine mld_40 C hs hP hf_1.1 hf_1.2.1 hin_109 dX12_doLay_255 ?_
          have ep_110 : x_107.toNatClampNeg = (x1.toInt + 26).toNat := z_posE hi_hr_108
          rw [ep_110]
          obtain ⟨f_107, l_107, u_107⟩ := z_add ex_107 rfl ti_26
          try replace f_107 : x_107.toInt = x1.toInt + 26 := by omega
          clear l_107 u_107
          obtain ⟨f_88, l_88, u_88⟩ := z_add ex_88 rfl ti_27
          try replace f_88 : x_88.toInt = x1.toInt + 27 := by omega
          clear l_88 u_88
          have g_112 := z_rng (A_33 40 (x1.toInt + 26).toNat)
          obtain ⟨f_98, l_98, u_98⟩ := z_add ex_98 rfl rfl
          try replace f_98 : x_98.toInt = x_88.toInt + (A_33 40 (x1.toInt + 26).toNat).toInt := by omega
          clear l_98 u_98
          have hn_111 : (x1.toInt + 26).toNat ≠ (x1.toInt + (A_33 40 (x1.toInt + 26).toNat).toInt + 27).toNat := zNe (by omega) (by omega) (by omega)
          have hn_113 : (x1.toInt + 26).toNat ≠ (x1.toInt + 14).toNat := zNe (by omega) (by omega) (by omega)
          have ev_114 : A_103 40 (x1.toInt + 26).toNat = A_33 40 (x1.toInt + 26).toNat := by rw [hE_103, va_up_self, pk_un hn_111, hE_86, va_up_self, pk_un hn_113]
          rw [ev_114]
          refine lv_iadd hx hb dX12_doLay_256 ?_
          refine lv_topi (fun x_115 ex_115 => ?_)
          refine lv_iload_n hx hb dX12_doLay_257 rfl (lv_at hl 5 rfl) ?_
          have hi_hr_116 : zEq x_115.toInt (x1.toInt + (A_33 40 (x1.toInt + 26).toNat).toInt + 31) := by
            obtain ⟨f_106, l_106, u_106⟩ := z_add ex_106 rfl ti_31
            try replace f_106 : x_106.toInt = x1.toInt + 31 := by omega
            clear l_106 u_106
            obtain ⟨f_115, l_115, u_115⟩ := z_add ex_115 rfl rfl
            try replace f_115 : x_115.toInt = x_106.toInt + (A_33 40 (x1.toInt + 26).toNat).toInt := by omega
            clear l_115 u_115
            show x_115.toInt = (x1.toInt + (A_33 40 (x1.toInt + 26).toNat).toInt + 31)
            omega
          have hl_hr_116 : 31 ≤ (A_33 40 (x1.toInt + 26).toNat).toInt + 31 ∧ (A_33 40 (x1.toInt + 26).toNat).toInt + 31 ≤ 34 := by
            omega
          have hid_hr_116 : (x1.toInt + (A_33 40 (x1.toInt + 26).toNat).toInt + 31) = x1.toInt + ((A_33 40 (x1.toInt + 26).toNat).toInt + 31) := by simp only [Int.add_assoc, Int.add_sub_assoc]
          have hr_116 := z_cell (lo := 31) (hi := 34) hp0 hi_hr_116 hid_hr_116 hl_hr_116 (by decide)
          replace hid_hr_116 : zEq (x1.toInt + (A_33 40 (x1.toInt + 26).toNat).toInt + 31) (x1.toInt + ((A_33 40 (x1.toInt + 26).toNat).toInt + 31)) := hid_hr_116
          have hin_117 : vp_in x_115 (zn K (zr K a0 0)) := vp_in_iff.mpr (by rw [(hf_1.2.2 (by decide))]; exact hr_116.in)
          have g_119 := z_rng x3
          refine mst_40 C hM hs hP hS hf_1.1 hT hf_1.2.1 hin_117 (tp_31 hr_116 (show 0 ≤ x3.toInt ∧ x3.toInt ≤ 3 from by omega)) dX12_doLay_258 (fun A_118 H locs hE_118 hT hP hS => ?_)
          have ep_120 : x_115.toNatClampNeg = (x1.toInt + (A_33 40 (x1.toInt + 26).toNat).toInt + 31).toNat := z_posE hi_hr_116
          rw [ep_120] at hE_118
          have FA := frA FA (frAu hE_118) (by decide)
          have FC := fC.tr FC (fC.st (b := x1.toInt) (lo := 31) (hi := 34) hE_118 hb0.1 (by decide) hid_hr_116 hl_hr_116) (by decide)
          have WZ := wz.st WZ hE_118 (Or.inr ⟨by omega, by omega, Or.inl (by omega)⟩)
          refine lv_aload_n hx hb dX12_doLay_259 rfl (lv_at hl 2 rfl) ?_
          refine mg_0 C hs hP ha0 hk0 wf_X12_8 dX12_doLay_260 ?_
          refine lv_iload_n hx hb dX12_doLay_263 rfl (lv_at hl 3 rfl) ?_
          refine lv_bipush (v := 26) hx hb dX12_doLay_264 (by decide) ?_
          refine lv_iadd hx hb dX12_doLay_266 ?_
          refine lv_topi (fun x_121 ex_121 => ?_)
          refine lv_dup2_11 hx hb dX12_doLay_267 rfl rfl ?_
          have hi_hr_122 : zEq x_121.toInt (x1.toInt + 26) := by
            obtain ⟨f_121, l_121, u_121⟩ := z_add ex_121 rfl ti_26
            try replace f_121 : x_121.toInt = x1.toInt + 26 := by omega
            clear l_121 u_121
            show x_121.toInt = (x1.toInt + 26)
            omega
          have hl_hr_122 : (26 : Int) ≤ 26 ∧ 26 ≤ (26 : Int) := by decide
          have hid_hr_122 : (x1.toInt + 26) = x1.toInt + (26) := by simp only [Int.add_assoc, Int.add_sub_assoc]
          have hr_122 := z_cell (lo := 26) (hi := 26) hp0 hi_hr_122 hid_hr_122 hl_hr_122 (by decide)
          replace hid_hr_122 : zEq (x1.toInt + 26) (x1.toInt + (26)) := hid_hr_122
          have hin_123 : vp_in x_121 (zn K (zr K a0 0)) := vp_in_iff.mpr (by rw [(hf_1.2.2 (by decide))]; exact hr_122.in)
          refine mld_40 C hs hP hf_1.1 hf_1.2.1 hin_123 dX12_doLay_268 ?_
          have ep_124 : x_121.toNatClampNeg = (x1.toInt + 26).toNat := z_posE hi_hr_122
          rw [ep_124]
          obtain ⟨f_121, l_121, u_121⟩ := z_add ex_121 rfl ti_26
          try replace f_121 : x_121.toInt = x1.toInt + 26 := by omega
          clear l_121 u_121
          obtain ⟨f_106, l_106, u_106⟩ := z_add ex_106 rfl ti_31
          try replace f_106 : x_106.toInt = x1.toInt + 31 := by omega
          clear l_106 u_106
          obtain ⟨f_115, l_115, u_115⟩ := z_add ex_115 rfl rfl
          try replace f_115 : x_115.toInt = x_106.toInt + (A_33 40 (x1.toInt + 26).toNat).toInt := by omega
          clear l_115 u_115
          have hn_125 : (x1.toInt + 26).toNat ≠ (x1.toInt + (A_33 40 (x1.toInt + 26).toNat).toInt + 31).toNat := zNe (by omega) (by omega) (by omega)
          have hn_126 : (x1.toInt + 26).toNat ≠ (x1.toInt + (A_33 40 (x1.toInt + 26).toNat).toInt + 27).toNat := zNe (by omega) (by omega) (by omega)
          have hn_127 : (x1.toInt + 26).toNat ≠ (x1.toInt + 14).toNat := zNe (by omega) (by omega) (by omega)
          have ev_128 : A_118 40 (x1.toInt + 26).toNat = A_33 40 (x1.toInt + 26).toNat := by rw [hE_118, va_up_self, pk_un hn_125, hE_103, va_up_self, pk_un hn_126, hE_86, va_up_self, pk_un hn_127]
          rw [ev_128]
          refine lv_iconst (v := 1) hx hb dX12_doLay_269 (by decide) ?_
          refine lv_iadd hx hb dX12_doLay_270 ?_
          refine lv_topi (fun x_129 ex_129 => ?_)
          have hin_130 : vp_in x_121 (zn K (zr K a0 0)) := vp_in_iff.mpr (by rw [(hf_1.2.2 (by decide))]; exact hr_122.in)
          obtain ⟨f_129, l_129, u_129⟩ := z_add ex_129 rfl ti_1
          try replace f_129 : x_129.toInt = (A_33 40 (x1.toInt + 26).toNat).toInt + 1 := by omega
          clear l_129 u_129
          refine mst_40 C hM hs hP hS hf_1.1 hT hf_1.2.1 hin_130 (tp_26 hr_122 (show 0 ≤ x_129.toInt ∧ x_129.toInt ≤ 4 from by omega)) dX12_doLay_271 (fun A_131 H locs hE_131 hT hP hS => ?_)
          have ep_132 : x_121.toNatClampNeg = (x1.toInt + 26).toNat := z_posE hi_hr_122
          rw [ep_132] at hE_131
          have FA := frA FA (frAu hE_131) (by decide)
          have FC := fC.tr FC (fC.st (b := x1.toInt) (lo := 26) (hi := 26) hE_131 hb0.1 (by decide) hid_hr_122 hl_hr_122) (by decide)
          have WZ := wz.st WZ hE_131 (Or.inr ⟨by omega, by omega, Or.inl (by omega)⟩)
          refine lv_aload_n hx hb dX12_doLay_272 rfl (lv_at hl 2 rfl) ?_
          refine mg_0 C hs hP ha0 hk0 wf_X12_8 dX12_doLay_273 ?_
          refine lv_iload_n hx hb dX12_doLay_276 rfl (lv_at hl 3 rfl) ?_
          refine lv_bipush (v := 110) hx hb dX12_doLay_277 (by decide) ?_
          refine lv_iadd hx hb dX12_doLay_279 ?_
          refine lv_topi (fun x_133 ex_133 => ?_)
          refine lv_iload hx hb dX12_doLay_280 (lv_at hl 1 rfl) ?_
          refine lv_iadd hx hb dX12_doLay_282 ?_
          refine lv_topi (fun x_134 ex_134 => ?_)
          refine lv_iconst (v := 5) hx hb dX12_doLay_283 (by decide) ?_
          have hi_hr_135 : zEq x_134.toInt (x1.toInt + (A 40 (x1.toInt + 60 * x3.toInt + x4.toInt + 230).toNat).toInt + 110) := by
            obtain ⟨f_133, l_133, u_133⟩ := z_add ex_133 rfl ti_110
            try replace f_133 : x_133.toInt = x1.toInt + 110 := by omega
            clear l_133 u_133
            obtain ⟨f_134, l_134, u_134⟩ := z_add ex_134 rfl rfl
            try replace f_134 : x_134.toInt = x_133.toInt + (A 40 (x1.toInt + 60 * x3.toInt + x4.toInt + 230).toNat).toInt := by omega
            clear l_134 u_134
            show x_134.toInt = (x1.toInt + (A 40 (x1.toInt + 60 * x3.toInt + x4.toInt + 230).toNat).toInt + 110)
            omega
          have hl_hr_135 : 110 ≤ (A 40 (x1.toInt + 60 * x3.toInt + x4.toInt + 230).toNat).toInt + 110 ∧ (A 40 (x1.toInt + 60 * x3.toInt + x4.toInt + 230).toNat).toInt + 110 ≤ 169 := by
            omega
          have hid_hr_135 : (x1.toInt + (A 40 (x1.toInt + 60 * x3.toInt + x4.toInt + 230).toNat).toInt + 110) = x1.toInt + ((A 40 (x1.toInt + 60 * x3.toInt + x4.toInt + 230).toNat).toInt + 110) := by simp only [Int.add_assoc, Int.add_sub_assoc]
          have hr_135 := z_cell (lo := 45) (hi := 169) hp0 hi_hr_135 hid_hr_135 hl_hr_135 (by decide)
          replace hid_hr_135 : zEq (x1.toInt + (A 40 (x1.toInt + 60 * x3.toInt + x4.toInt + 230).toNat).toInt + 110) (x1.toInt + ((A 40 (x1.toInt + 60 * x3.toInt + x4.toInt + 230).toNat).toInt + 110)) := hid_hr_135
          have hin_136 : vp_in x_134 (zn K (zr K a0 0)) := vp_in_iff.mpr (by rw [(hf_1.2.2 (by decide))]; exact hr_135.in)
          refine mst_40 C hM hs hP hS hf_1.1 hT hf_1.2.1 hin_136 (tp_45 hr_135) dX12_doLay_284 (fun A_137 H locs hE_137 hT hP hS => ?_)
          have ep_138 : x_134.toNatClampNeg = (x1.toInt + (A 40 (x1.toInt + 60 * x3.toInt + x4.toInt + 230).toNat).toInt + 110).toNat := z_posE hi_hr_135
          rw [ep_138] at hE_137
          have FA := frA FA (frAu hE_137) (by decide)
          have FC := fC.tr FC (fC.st (b := x1.toInt) (lo := 110) (hi := 169) hE_137 hb0.1 (by decide) hid_hr_135 hl_hr_135) (by decide)
          have WZ := wz.st WZ hE_137 (Or.inl (by rw [ti_5]; decide))
          refine lv_aload_n hx hb dX12_doLay_285 rfl (lv_at hl 2 rfl) ?_
          refine lv_iload_n hx hb dX12_doLay_286 rfl (lv_at hl 3 rfl) ?_
          refine lv_iload_n hx hb dX12_doLay_287 rfl (lv_at hl 5 rfl) ?_
          refine lv_aload_n hx hb dX12_doLay_288 rfl (lv_at hl 2 rfl) ?_
          refine lv_iload_n hx hb dX12_doLay_289 rfl (lv_at hl 3 rfl) ?_
          refine lv_iload hx hb dX12_doLay_290 (lv_at hl 1 rfl) ?_
          have hq_139 : 0 ≤ (A 40 (x1.toInt + 60 * x3.toInt + x4.toInt + 230).toNat).toInt ∧ (A 40 (x1.toInt + 60 * x3.toInt + x4.toInt + 230).toNat).toInt ≤ 59 := by (first | assumption | omega | (intros; omega))
          refine zcS (zrV (As := [.int x1, .int (A 40 (x1.toInt + 60 * x3.toInt + x4.toInt + 230).toNat)]) (b := a0) (rest := [.int x3, .int x1, .ref a0]) C hs hP hS (c_X12_colour l D K hM f A_137 hT a0 ha0 hk0 x1 (A 40 (x1.toInt + 60 * x3.toInt + x4.toInt + 230).toNat) hp0 hq_139) m_X12_colour wm_X12_120 (zrecv hs hP ha0 (zF_11 hk0) rfl) ⟨by decide, by decide⟩ hl.1 (Nat.le_of_ble_eq_true rfl) dX12_doLay_292) (fun x_140 p_140 => ?_)
          have pp_140 : x_140 = mcol (A_137 40) x1 (A 40 (x1.toInt + 60 * x3.toInt + x4.toInt + 230).toNat) := p_140
          have pq_140 := congrArg Int32.toInt pp_140
          have g_141 := z_rng x_140
          have hq_142 : 0 ≤ x3.toInt ∧ x3.toInt ≤ 3 := by (first | assumption | omega | (intros; omega))
          refine mcV (zrV (As := [.int x1, .int x3, .int x_140]) (b := a0) (rest := []) C hs hP hS (c_X12_showFound l D K hM f A_137 hT a0 ha0 hk0 x1 x3 x_140 hp0 hq_142) m_X12_showFound wm_X12_214 (zrecv hs hP ha0 (zF_11 hk0) rfl) ⟨by decide, by decide⟩ hl.1 (Nat.le_of_ble_eq_true rfl) dX12_doLay_295) hS (fun f_143 A_143 H locs p_143 hP hS => ?_)
          obtain ⟨hT, hA_143, hF_143, hC_143, hW_143⟩ := p_143
          have hff_143 : f = f_143 := funext (fun k9 => (hF_143 k9 List.not_mem_nil).symm)
          subst hff_143
          have FA := frA FA hA_143 (by decide)
          have FF := frF FF hF_143 (by decide)
          have FC := fC.tr FC hC_143 (by decide)
          have WZ := wz.tr WZ hW_143
          refine lv_aload_n hx hb dX12_doLay_298 rfl (lv_at hl 2 rfl) ?_
          refine mg_0 C hs hP ha0 hk0 wf_X12_8 dX12_doLay_299 ?_
          refine lv_iload_n hx hb dX12_doLay_302 rfl (lv_at hl 3 rfl) ?_
          refine lv_bipush (v := 9) hx hb dX12_doLay_303 (by decide) ?_
          refine lv_iadd hx hb dX12_doLay_305 ?_
          refine lv_topi (fun x_144 ex_144 => ?_)
          refine lv_aload_n hx hb dX12_doLay_306 rfl (lv_at hl 2 rfl) ?_
          refine lv_iload_n hx hb dX12_doLay_307 rfl (lv_at hl 3 rfl) ?_
          refine lv_iload_n hx hb dX12_doLay_308 rfl (lv_at hl 5 rfl) ?_
          refine lv_iconst (v := 1) hx hb dX12_doLay_309 (by decide) ?_
          refine lv_iadd hx hb dX12_doLay_310 ?_
          refine lv_topi (fun x_145 ex_145 => ?_)
          refine lv_iconst (v := 4) hx hb dX12_doLay_311 (by decide) ?_
          refine lv_irem hx hb dX12_doLay_312 (by decide) ?_
          refine lv_topi (fun x_146 ex_146 => ?_)
          obtain ⟨f_145, l_145, u_145⟩ := z_add ex_145 rfl ti_1
          try replace f_145 : x_145.toInt = x3.toInt + 1 := by omega
          clear l_145 u_145
          have f_146 := z_rem ex_146 rfl ti_4 (by decide)
          have hq_147 : 0 ≤ x_146.toInt ∧ x_146.toInt ≤ 4 := by (first | assumption | omega | (intros; omega))
          refine zcS (zrV (As := [.int x1, .int x_146]) (b := a0) (rest := [.int x_144, .ref (zr K a0 0)]) C hs hP hS (c_X12_seatFrom l D K hM f A_143 hT a0 ha0 hk0 x1 x_146 hp0 hq_147) m_X12_seatFrom wm_X12_162 (zrecv hs hP ha0 (zF_11 hk0) rfl) ⟨by decide, by decide⟩ hl.1 (Nat.le_of_ble_eq_true rfl) dX12_doLay_313) (fun x_148 p_148 => ?_)
          have pp_148 : (x_148.toInt = -1 ∨ (0 ≤ x_148.toInt ∧ x_148.toInt ≤ 3 ∧ 1 ≤ (A_143 40 (x1.toInt + x_148.toInt + 22).toNat).toInt ∧ nL (A_143 40) x1.toInt x_148.toInt (A_143 40 (x1.toInt + 26).toNat).toInt)) := p_148
          have tRs := hT.row hp0
          have sfp_148 := zHid.mk pp_148
          clear pp_148
          have FCs := FC
          have WZs := WZ
          have fq_150 : fC (A_33 40) (A_86 40) x1.toInt ([(14, 14), (15, 18), (26, 26), (27, 30), (31, 34), (110, 169), (530, 589), (830, 889)] : List (Int × Int)) := fC.tr fC.rf (fC.s2 (lo := 14) (hi := 14) hE_86 hb0.1 (by decide) ⟨by omega, by omega⟩) (by decide)
          have fq_151 : fC (A_33 40) (A_103 40) x1.toInt ([(14, 14), (15, 18), (26, 26), (27, 30), (31, 34), (110, 169), (530, 589), (830, 889)] : List (Int × Int)) := fC.tr fq_150 (fC.s2 (lo := 27) (hi := 30) hE_103 hb0.1 (by decide) ⟨by omega, by omega⟩) (by decide)
          have fq_152 : fC (A_33 40) (A_118 40) x1.toInt ([(14, 14), (15, 18), (26, 26), (27, 30), (31, 34), (110, 169), (530, 589), (830, 889)] : List (Int × Int)) := fC.tr fq_151 (fC.s2 (lo := 31) (hi := 34) hE_118 hb0.1 (by decide) ⟨by omega, by omega⟩) (by decide)
          have fq_153 : fC (A_33 40) (A_131 40) x1.toInt ([(14, 14), (15, 18), (26, 26), (27, 30), (31, 34), (110, 169), (530, 589), (830, 889)] : List (Int × Int)) := fC.tr fq_152 (fC.s2 (lo := 26) (hi := 26) hE_131 hb0.1 (by decide) ⟨by omega, by omega⟩) (by decide)
          have fq_154 : fC (A_33 40) (A_137 40) x1.toInt ([(14, 14), (15, 18), (26, 26), (27, 30), (31, 34), (110, 169), (530, 589), (830, 889)] : List (Int × Int)) := fC.tr fq_153 (fC.s2 (lo := 110) (hi := 169) hE_137 hb0.1 (by decide) ⟨by omega, by omega⟩) (by decide)
          have fq_155 : fC (A_33 40) (A_143 40) x1.toInt ([(14, 14), (15, 18), (26, 26), (27, 30), (31, 34), (110, 169), (530, 589), (830, 889)] : List (Int × Int)) := fC.tr fq_154 hC_143 (by decide)
          have rq_149 : ∀ j : Int, x1.toInt + 22 ≤ j → j ≤ x1.toInt + 25 → A_143 40 j.toNat = A_33 40 j.toNat := fun j h1 h2 => fC.ar fq_155 hb0.1 (lo := 22) (hi := 25) (by decide) j (by decide) h1 h2
          obtain ⟨f_133, l_133, u_133⟩ := z_add ex_133 rfl ti_110
          try replace f_133 : x_133.toInt = x1.toInt + 110 := by omega
          clear l_133 u_133
          obtain ⟨f_134, l_134, u_134⟩ := z_add ex_134 rfl rfl
          try replace f_134 : x_134.toInt = x_133.toInt + (A 40 (x1.toInt + 60 * x3.toInt + x4.toInt + 230).toNat).toInt := by omega
          clear l_134 u_134
          have es_156 : A_143 40 (x1.toInt + 26).toNat = x_129 := by rw [hC_143.ar (by omega) (lo := 26) (hi := 26) (by decide) (x1.toInt + 26) (by decide) (by omega) (by omega), hE_137, va_up_self, pk_un (zNe (i := (x1.toInt + 26)) (j := (x1.toInt + (A 40 (x1.toInt + 60 * x3.toInt + x4.toInt + 230).toNat).toInt + 110)) (by omega) (by omega) (by omega)), hE_131, va_up_self, pk_us]
          have es_157 : A_143 40 (x1.toInt + 20).toNat = A_33 40 (x1.toInt + 20).toNat := by rw [hC_143.ar (by omega) (lo := 20) (hi := 20) (by decide) (x1.toInt + 20) (by decide) (by omega) (by omega), hE_137, va_up_self, pk_un (zNe (i := (x1.toInt + 20)) (j := (x1.toInt + (A 40 (x1.toInt + 60 * x3.toInt + x4.toInt + 230).toNat).toInt + 110)) (by omega) (by omega) (by omega)), hE_131, va_up_self, pk_un (zNe (i := (x1.toInt + 20)) (j := (x1.toInt + 26)) (by omega) (by omega) (by omega)), hE_118, va_up_self, pk_un (zNe (i := (x1.toInt + 20)) (j := (x1.toInt + (A_33 40 (x1.toInt + 26).toNat).toInt + 31)) (by omega) (by omega) (by omega)), hE_103, va_up_self, pk_un (zNe (i := (x1.toInt + 20)) (j := (x1.toInt + (A_33 40 (x1.toInt + 26).toNat).toInt + 27)) (by omega) (by omega) (by omega)), hE_86, va_up_self, pk_un (zNe (i := (x1.toInt + 20)) (j := (x1.toInt + 14)) (by omega) (by omega) (by omega))]
          have es_158 : A_143 40 (x1.toInt + 43).toNat = A_33 40 (x1.toInt + 43).toNat := by rw [hC_143.ar (by omega) (lo := 43) (hi := 43) (by decide) (x1.toInt + 43) (by decide) (by omega) (by omega), hE_137, va_up_self, pk_un (zNe (i := (x1.toInt + 43)) (j := (x1.toInt + (A 40 (x1.toInt + 60 * x3.toInt + x4.toInt + 230).toNat).toInt + 110)) (by omega) (by omega) (by omega)), hE_131, va_up_self, pk_un (zNe (i := (x1.toInt + 43)) (j := (x1.toInt + 26)) (by omega) (by omega) (by omega)), hE_118, va_up_self, pk_un (zNe (i := (x1.toInt + 43)) (j := (x1.toInt + (A_33 40 (x1.toInt + 26).toNat).toInt + 31)) (by omega) (by omega) (by omega)), hE_103, va_up_self, pk_un (zNe (i := (x1.toInt + 43)) (j := (x1.toInt + (A_33 40 (x1.toInt + 26).toNat).toInt + 27)) (by omega) (by omega) (by omega)), hE_86, va_up_self, pk_un (zNe (i := (x1.toInt + 43)) (j := (x1.toInt + 14)) (by omega) (by omega) (by omega))]
          have rKs := hp3.2.2.fw hb0.1 FC WZ tR0.p1.2 tR0.p21.2 (by decide) (by decide) (by decide)
          have e21s := FC.ar hb0.1 (lo := 21) (hi := 21) (by decide) (x1.toInt + 21) (by decide) (by omega) (by omega)
          have els : ∀ i : Int, 0 ≤ i → i < (A 40 (x1.toInt + 26).toNat).toInt → A_143 40 (x1.toInt + i + 31).toNat = A 40 (x1.toInt + i + 31).toNat := fun i h1 h2 => by
            rw [hC_143.ar hb0.1 (lo := 31) (hi := 34) (by decide) (x1.toInt + i + 31) (by decide) (by omega) (by omega), hE_137, va_up_self, pk_un (zNe (i := (x1.toInt + i + 31)) (j := (x1.toInt + (A 40 (x1.toInt + 60 * x3.toInt + x4.toInt + 230).toNat).toInt + 110)) (by omega) (by omega) (by omega)), hE_131, va_up_self, pk_un (zNe (i := (x1.toInt + i + 31)) (j := (x1.toInt + 26)) (by omega) (by omega) (by omega)), hE_118, va_up_self, pk_un (zNe (i := (x1.toInt + i + 31)) (j := (x1.toInt + (A_33 40 (x1.toInt + 26).toNat).toInt + 31)) (by omega) (by omega) (by omega)), hE_103, va_up_self, pk_un (zNe (i := (x1.toInt + i + 31)) (j := (x1.toInt + (A_33 40 (x1.toInt + 26).toNat).toInt + 27)) (by omega) (by omega) (by omega)), hE_86, va_up_self, pk_un (zNe (i := (x1.toInt + i + 31)) (j := (x1.toInt + 14)) (by omega) (by omega) (by omega))]
            exact iv_33_1.ar hb0.1 (lo := 31) (hi := 34) (by decide) (x1.toInt + i + 31) (by decide) (by omega) (by omega)
          have ens : (A_143 40 (x1.toInt + (A 40 (x1.toInt + 26).toNat).toInt + 31).toNat).toInt = x3.toInt := by
            rw [← e26q]
            rw [hC_143.ar hb0.1 (lo := 31) (hi := 34) (by decide) (x1.toInt + (A_33 40 (x1.toInt + 26).toNat).toInt + 31) (by decide) (by omega) (by omega), hE_137, va_up_self, pk_un (zNe (i := (x1.toInt + (A_33 40 (x1.toInt + 26).toNat).toInt + 31)) (j := (x1.toInt + (A 40 (x1.toInt + 60 * x3.toInt + x4.toInt + 230).toNat).toInt + 110)) (by omega) (by omega) (by omega)), hE_131, va_up_self, pk_un (zNe (i := (x1.toInt + (A_33 40 (x1.toInt + 26).toNat).toInt + 31)) (j := (x1.toInt + 26)) (by omega) (by omega) (by omega)), hE_118, va_up_self, pk_us]
          have rPs := rowP.dl (C1 := A_143 40) hp3 tR0 hp1 hp4 (by omega) (by unfold hd; rw [rq_149 (x1.toInt + x3.toInt + 22) (by omega) (by omega)]; exact iv_33_2) (fun q9 h1 h2 h3 => by unfold hd; rw [rq_149 (x1.toInt + q9 + 22) (by omega) (by omega), iv_33_3 q9 h1 h2 h3]) (by rw [e21s]) (by rw [es_157, e20q]) (by rw [es_156]; omega) (by rw [es_158]; omega) els ens rKs
          have hi_hr_159 : zEq x_144.toInt (x1.toInt + 9) := by
            obtain ⟨f_144, l_144, u_144⟩ := z_add ex_144 rfl ti_9
            try replace f_144 : x_144.toInt = x1.toInt + 9 := by omega
            clear l_144 u_144
            show x_144.toInt = (x1.toInt + 9)
            omega
          have hl_hr_159 : (9 : Int) ≤ 9 ∧ 9 ≤ (9 : Int) := by decide
          have hid_hr_159 : (x1.toInt + 9) = x1.toInt + (9) := by simp only [Int.add_assoc, Int.add_sub_assoc]
          have hr_159 := z_cell (lo := 9) (hi := 9) hp0 hi_hr_159 hid_hr_159 hl_hr_159 (by decide)
          replace hid_hr_159 : zEq (x1.toInt + 9) (x1.toInt + (9)) := hid_hr_159
          have hin_160 : vp_in x_144 (zn K (zr K a0 0)) := vp_in_iff.mpr (by rw [(hf_1.2.2 (by decide))]; exact hr_159.in)
          have g_162 := z_rng x_148
          refine mst_40 C hM hs hP hS hf_1.1 hT hf_1.2.1 hin_160 (tp_9 hr_159 (show -1 ≤ x_148.toInt ∧ x_148.toInt ≤ 3 from by omega)) dX12_doLay_316 (fun A_161 H locs hE_161 hT hP hS => ?_)
          have ep_163 : x_144.toNatClampNeg = (x1.toInt + 9).toNat := z_posE hi_hr_159
          rw [ep_163] at hE_161
          have FA := frA FA (frAu hE_161) (by decide)
          have FC := fC.tr FC (fC.st (b := x1.toInt) (lo := 9) (hi := 9) hE_161 hb0.1 (by decide) hid_hr_159 hl_hr_159) (by decide)
          have WZ := wz.st WZ hE_161 (Or.inr ⟨by omega, by omega, Or.inl (by omega)⟩)
          have hRN := rowN.nx rPs tRs hb0.1 hE_161 sfp_148
          refine lv_aload_n hx hb dX12_doLay_317 rfl (lv_at hl 2 rfl) ?_
          refine mg_0 C hs hP ha0 hk0 wf_X12_8 dX12_doLay_318 ?_
          refine lv_iload_n hx hb dX12_doLay_321 rfl (lv_at hl 3 rfl) ?_
          refine lv_bipush (v := 9) hx hb dX12_doLay_322 (by decide) ?_
          refine lv_iadd hx hb dX12_doLay_324 ?_
          refine lv_topi (fun x_164 ex_164 => ?_)
          have hi_hr_165 : zEq x_164.toInt (x1.toInt + 9) := by
            obtain ⟨f_164, l_164, u_164⟩ := z_add ex_164 rfl ti_9
            try replace f_164 : x_164.toInt = x1.toInt + 9 := by omega
            clear l_164 u_164
            show x_164.toInt = (x1.toInt + 9)
            omega
          have hl_hr_165 : (9 : Int) ≤ 9 ∧ 9 ≤ (9 : Int) := by decide
          have hid_hr_165 : (x1.toInt + 9) = x1.toInt + (9) := by simp only [Int.add_assoc, Int.add_sub_assoc]
          have hr_165 := z_cell (lo := 9) (hi := 9) hp0 hi_hr_165 hid_hr_165 hl_hr_165 (by decide)
          replace hid_hr_165 : zEq (x1.toInt + 9) (x1.toInt + (9)) := hid_hr_165
          have hin_166 : vp_in x_164 (zn K (zr K a0 0)) := vp_in_iff.mpr (by rw [(hf_1.2.2 (by decide))]; exact hr_165.in)
          refine mld_40 C hs hP hf_1.1 hf_1.2.1 hin_166 dX12_doLay_325 ?_
          have ep_167 : x_164.toNatClampNeg = (x1.toInt + 9).toNat := z_posE hi_hr_165
          rw [ep_167]
          have ev_168 : A_161 40 (x1.toInt + 9).toNat = x_148 := by rw [hE_161, va_up_self, pk_us]
          have tv_169 := rv_9 hT hr_165
          rw [ep_167] at tv_169
          rw [ev_168] at tv_169
          rw [ev_168]
          refine lv_iconst (v := (-1)) hx hb dX12_doLay_326 (by decide) ?_
          refine bi_ne (tgt := 336) hx hb rfl ti_m1 dX12_doLay_327 (by decide) (fun c_170 => ?_) (fun c_170 => ?_)
          · skip
            exact maV hQ hx hb hr hlk hP hS ⟨hT, FA, FF, FC, WZ, ⟨by omega, by omega, by omega, by omega, fun h9 => by omega, hRN⟩⟩ dX12_doLay_336
          · skip
            refine lv_aload_n hx hb dX12_doLay_330 rfl (lv_at hl 2 rfl) ?_
            refine lv_iload_n hx hb dX12_doLay_331 rfl (lv_at hl 3 rfl) ?_
            refine lv_iload_n hx hb dX12_doLay_332 rfl (lv_at hl 4 rfl) ?_
            have g_171 := z_rng x2
            have hq_172 : rowP (A_161 40) x1.toInt := by exact hRN.1
            obtain ⟨f_144, l_144, u_144⟩ := z_add ex_144 rfl ti_9
            try replace f_144 : x_144.toInt = x1.toInt + 9 := by omega
            clear l_144 u_144
            have es_174 : A_161 40 (x1.toInt + 26).toNat = x_129 := by rw [hE_161, va_up_self, pk_un (zNe (i := (x1.toInt + 26)) (j := (x1.toInt + 9)) (by omega) (by omega) (by omega)), hC_143.ar (by omega) (lo := 26) (hi := 26) (by decide) (x1.toInt + 26) (by decide) (by omega) (by omega), hE_137, va_up_self, pk_un (zNe (i := (x1.toInt + 26)) (j := (x1.toInt + (A 40 (x1.toInt + 60 * x3.toInt + x4.toInt + 230).toNat).toInt + 110)) (by omega) (by omega) (by omega)), hE_131, va_up_self, pk_us]
            have hq_173 : 1 ≤ (A_161 40 (x1.toInt + 26).toNat).toInt := by rw [es_174] <;> (first | assumption | omega | (intros; omega))
            have hq_175 : (f 11).toInt ≤ 1960000000 := by (first | assumption | omega | (intros; omega))
            have hq_176 : (f 9).toInt ≤ 1960000000 := by (first | assumption | omega | (intros; omega))
            refine mcV (zrV (As := [.int x1, .int x2]) (b := a0) (rest := []) C hs hP hS (c_X12_endTrick l D K hM f A_161 hT a0 ha0 hk0 x1 x2 hp0 hq_172 hq_173 hq_175 hq_176) m_X12_endTrick wm_X12_217 (zrecv hs hP ha0 (zF_11 hk0) rfl) ⟨by decide, by decide⟩ hl.1 (Nat.le_of_ble_eq_true rfl) dX12_doLay_333) hS (fun f_177 A_177 H locs p_177 hP hS => ?_)
            obtain ⟨hT, hA_177, hF_177, hC_177, hW_177, pp_177⟩ := p_177
            have pp_177 : (f 9).toInt ≤ (f_177 9).toInt ∧ (f_177 9).toInt ≤ (f 9).toInt + 2 ∧ (f 11).toInt ≤ (f_177 11).toInt ∧ (f_177 11).toInt ≤ (f 11).toInt + 13 ∧ ((f 12).toInt ≠ 0 → (f_177 11).toInt = (f 11).toInt) ∧ rowN (A_177 40) x1.toInt := pp_177
            have pp0_177 := zHid.mk pp_177
            have pc_177 := pp_177.1
            have pd_177 := pp_177.2.1
            have pa_177 := pp_177.2.2.1
            have pb_177 := pp_177.2.2.2.1
            have qq_177 := zHid.mk pp_177.2.2.2.2.1
            replace pp_177 := pp_177.2.2.2.2.2
            have FA := frA FA hA_177 (by decide)
            have FF := frF FF hF_177 (by decide)
            have FC := fC.tr FC hC_177 (by decide)
            have WZ := wz.tr WZ hW_177
            have hRN := pp0_177.2.2.2.2.2
            exact maV hQ hx hb hr hlk hP hS ⟨hT, FA, FF, FC, WZ, ⟨by omega, by omega, by omega, by omega, fun h9 => by have hq0 := qq_177 h9; omega, hRN⟩⟩ dX12_doLay_336
        · skip
          refine lv_aload_n hx hb dX12_doLay_107 rfl (lv_at hl 2 rfl) ?_
          refine mg_0 C hs hP ha0 hk0 wf_X12_8 dX12_doLay_108 ?_
          refine lv_iload_n hx hb dX12_doLay_111 rfl (lv_at hl 3 rfl) ?_
          refine lv_bipush (v := 43) hx hb dX12_doLay_112 (by decide) ?_
          refine lv_iadd hx hb dX12_doLay_114 ?_
          refine lv_topi (fun x_178 ex_178 => ?_)
          have hi_hr_179 : zEq x_178.toInt (x1.toInt + 43) := by
            have g_180 := z_rng x1
            obtain ⟨f_178, l_178, u_178⟩ := z_add ex_178 rfl ti_43
            try replace f_178 : x_178.toInt = x1.toInt + 43 := by omega
            clear l_178 u_178
            show x_178.toInt = (x1.toInt + 43)
            omega
          have hl_hr_179 : (43 : Int) ≤ 43 ∧ 43 ≤ (43 : Int) := by decide
          have hid_hr_179 : (x1.toInt + 43) = x1.toInt + (43) := by simp only [Int.add_assoc, Int.add_sub_assoc]
          have hr_179 := z_cell (lo := 43) (hi := 43) hp0 hi_hr_179 hid_hr_179 hl_hr_179 (by decide)
          replace hid_hr_179 : zEq (x1.toInt + 43) (x1.toInt + (43)) := hid_hr_179
          have hin_181 : vp_in x_178 (zn K (zr K a0 0)) := vp_in_iff.mpr (by rw [(hf_1.2.2 (by decide))]; exact hr_179.in)
          refine mld_40 C hs hP hf_1.1 hf_1.2.1 hin_181 dX12_doLay_115 ?_
          have ep_182 : x_178.toNatClampNeg = (x1.toInt + 43).toNat := z_posE hi_hr_179
          rw [ep_182]
          have tv_183 := rv_43 hT hr_179
          rw [ep_182] at tv_183
          refine lv_istore (lv' := [(6, .int (A_33 40 (x1.toInt + 43).toNat)), (5, .int (A 40 (x1.toInt + 60 * x3.toInt + x4.toInt + 230).toNat)), (0, .ref a0), (1, .int x1), (2, .int x2), (3, .int x3), (4, .int x4)]) hx hb dX12_doLay_116 hl (by decide) rfl (fun ls hl => ?_)
          refine lv_aload_n hx hb dX12_doLay_118 rfl (lv_at hl 2 rfl) ?_
          refine mg_0 C hs hP ha0 hk0 wf_X12_8 dX12_doLay_119 ?_
          refine lv_iload_n hx hb dX12_doLay_122 rfl (lv_at hl 3 rfl) ?_
          refine lv_sipush (v := 650) hx hb dX12_doLay_123 (by decide) ?_
          refine lv_iadd hx hb dX12_doLay_126 ?_
          refine lv_topi (fun x_184 ex_184 => ?_)
          refine lv_iload hx hb dX12_doLay_127 (lv_at hl 0 rfl) ?_
          refine lv_iadd hx hb dX12_doLay_129 ?_
          refine lv_topi (fun x_185 ex_185 => ?_)
          refine lv_iload_n hx hb dX12_doLay_130 rfl (lv_at hl 5 rfl) ?_
          have hi_hr_186 : zEq x_185.toInt (x1.toInt + (A_33 40 (x1.toInt + 43).toNat).toInt + 650) := by
            have g_187 := z_rng x1
            obtain ⟨f_184, l_184, u_184⟩ := z_add ex_184 rfl ti_650
            try replace f_184 : x_184.toInt = x1.toInt + 650 := by omega
            clear l_184 u_184
            have g_188 := z_rng (A_33 40 (x1.toInt + 43).toNat)
            obtain ⟨f_185, l_185, u_185⟩ := z_add ex_185 rfl rfl
            try replace f_185 : x_185.toInt = x_184.toInt + (A_33 40 (x1.toInt + 43).toNat).toInt := by omega
            clear l_185 u_185
            show x_185.toInt = (x1.toInt + (A_33 40 (x1.toInt + 43).toNat).toInt + 650)
            omega
          have hl_hr_186 : 650 ≤ (A_33 40 (x1.toInt + 43).toNat).toInt + 650 ∧ (A_33 40 (x1.toInt + 43).toNat).toInt + 650 ≤ 709 := by
            have g_189 := z_rng x1
            have g_190 := z_rng (A_33 40 (x1.toInt + 43).toNat)
            omega
          have hid_hr_186 : (x1.toInt + (A_33 40 (x1.toInt + 43).toNat).toInt + 650) = x1.toInt + ((A_33 40 (x1.toInt + 43).toNat).toInt + 650) := by simp only [Int.add_assoc, Int.add_sub_assoc]
          have hr_186 := z_cell (lo := 470) (hi := 769) hp0 hi_hr_186 hid_hr_186 hl_hr_186 (by decide)
          replace hid_hr_186 : zEq (x1.toInt + (A_33 40 (x1.toInt + 43).toNat).toInt + 650) (x1.toInt + ((A_33 40 (x1.toInt + 43).toNat).toInt + 650)) := hid_hr_186
          have hin_191 : vp_in x_185 (zn K (zr K a0 0)) := vp_in_iff.mpr (by rw [(hf_1.2.2 (by decide))]; exact hr_186.in)
          refine mst_40 C hM hs hP hS hf_1.1 hT hf_1.2.1 hin_191 (tp_470 hr_186) dX12_doLay_131 (fun A_192 H locs hE_192 hT hP hS => ?_)
          have ep_193 : x_185.toNatClampNeg = (x1.toInt + (A_33 40 (x1.toInt + 43).toNat).toInt + 650).toNat := z_posE hi_hr_186
          rw [ep_193] at hE_192
          have FA := frA FA (frAu hE_192) (by decide)
          have FC := fC.tr FC (fC.st (b := x1.toInt) (lo := 650) (hi := 709) hE_192 hb0.1 (by decide) hid_hr_186 hl_hr_186) (by decide)
          have WZ := wz.st WZ hE_192 (Or.inr ⟨by omega, by omega, Or.inr (by omega)⟩)
          refine lv_aload_n hx hb dX12_doLay_132 rfl (lv_at hl 2 rfl) ?_
          refine mg_0 C hs hP ha0 hk0 wf_X12_8 dX12_doLay_133 ?_
          refine lv_iload_n hx hb dX12_doLay_136 rfl (lv_at hl 3 rfl) ?_
          refine lv_sipush (v := 710) hx hb dX12_doLay_137 (by decide) ?_
          refine lv_iadd hx hb dX12_doLay_140 ?_
          refine lv_topi (fun x_194 ex_194 => ?_)
          refine lv_iload hx hb dX12_doLay_141 (lv_at hl 0 rfl) ?_
          refine lv_iadd hx hb dX12_doLay_143 ?_
          refine lv_topi (fun x_195 ex_195 => ?_)
          refine lv_aload_n hx hb dX12_doLay_144 rfl (lv_at hl 2 rfl) ?_
          refine lv_iload_n hx hb dX12_doLay_145 rfl (lv_at hl 3 rfl) ?_
          refine lv_aload_n hx hb dX12_doLay_146 rfl (lv_at hl 2 rfl) ?_
          refine mg_0 C hs hP ha0 hk0 wf_X12_8 dX12_doLay_147 ?_
          refine lv_iload_n hx hb dX12_doLay_150 rfl (lv_at hl 3 rfl) ?_
          refine lv_bipush (v := 27) hx hb dX12_doLay_151 (by decide) ?_
          refine lv_iadd hx hb dX12_doLay_153 ?_
          refine lv_topi (fun x_196 ex_196 => ?_)
          have hi_hr_197 : zEq x_196.toInt (x1.toInt + 27) := by
            have g_198 := z_rng x1
            obtain ⟨f_196, l_196, u_196⟩ := z_add ex_196 rfl ti_27
            try replace f_196 : x_196.toInt = x1.toInt + 27 := by omega
            clear l_196 u_196
            show x_196.toInt = (x1.toInt + 27)
            omega
          have hl_hr_197 : (27 : Int) ≤ 27 ∧ 27 ≤ (27 : Int) := by decide
          have hid_hr_197 : (x1.toInt + 27) = x1.toInt + (27) := by simp only [Int.add_assoc, Int.add_sub_assoc]
          have hr_197 := z_cell (lo := 27) (hi := 30) hp0 hi_hr_197 hid_hr_197 hl_hr_197 (by decide)
          replace hid_hr_197 : zEq (x1.toInt + 27) (x1.toInt + (27)) := hid_hr_197
          have hin_199 : vp_in x_196 (zn K (zr K a0 0)) := vp_in_iff.mpr (by rw [(hf_1.2.2 (by decide))]; exact hr_197.in)
          refine mld_40 C hs hP hf_1.1 hf_1.2.1 hin_199 dX12_doLay_154 ?_
          have ep_200 : x_196.toNatClampNeg = (x1.toInt + 27).toNat := z_posE hi_hr_197
          rw [ep_200]
          have g_202 := z_rng x1
          obtain ⟨f_196, l_196, u_196⟩ := z_add ex_196 rfl ti_27
          try replace f_196 : x_196.toInt = x1.toInt + 27 := by omega
          clear l_196 u_196
          obtain ⟨f_184, l_184, u_184⟩ := z_add ex_184 rfl ti_650
          try replace f_184 : x_184.toInt = x1.toInt + 650 := by omega
          clear l_184 u_184
          have g_203 := z_rng (A_33 40 (x1.toInt + 43).toNat)
          obtain ⟨f_185, l_185, u_185⟩ := z_add ex_185 rfl rfl
          try replace f_185 : x_185.toInt = x_184.toInt + (A_33 40 (x1.toInt + 43).toNat).toInt := by omega
          clear l_185 u_185
          have hn_201 : (x1.toInt + 27).toNat ≠ (x1.toInt + (A_33 40 (x1.toInt + 43).toNat).toInt + 650).toNat := zNe (by omega) (by omega) (by omega)
          have ev_204 : A_192 40 (x1.toInt + 27).toNat = A_33 40 (x1.toInt + 27).toNat := by rw [hE_192, va_up_self, pk_un hn_201]
          have tv_205 := rv_27 hT hr_197
          rw [ep_200] at tv_205
          rw [ev_204] at tv_205
          rw [ev_204]
          have g_206 := z_rng (A_33 40 (x1.toInt + 27).toNat)
          have hq_207 : 0 ≤ (A_33 40 (x1.toInt + 27).toNat).toInt ∧ (A_33 40 (x1.toInt + 27).toNat).toInt ≤ 59 := by (first | assumption | omega | (intros; omega))
          refine zcS (zrV (As := [.int x1, .int (A_33 40 (x1.toInt + 27).toNat)]) (b := a0) (rest := [.int x_195, .ref (zr K a0 0)]) C hs hP hS (c_X12_colour l D K hM f A_192 hT a0 ha0 hk0 x1 (A_33 40 (x1.toInt + 27).toNat) hp0 hq_207) m_X12_colour wm_X12_120 (zrecv hs hP ha0 (zF_11 hk0) rfl) ⟨by decide, by decide⟩ hl.1 (Nat.le_of_ble_eq_true rfl) dX12_doLay_155) (fun x_208 p_208 => ?_)
          have pp_208 : x_208 = mcol (A_192 40) x1 (A_33 40 (x1.toInt + 27).toNat) := p_208
          have pq_208 := congrArg Int32.toInt pp_208
          have hi_hr_209 : zEq x_195.toInt (x1.toInt + (A_33 40 (x1.toInt + 43).toNat).toInt + 710) := by
            obtain ⟨f_194, l_194, u_194⟩ := z_add ex_194 rfl ti_710
            try replace f_194 : x_194.toInt = x1.toInt + 710 := by omega
            clear l_194 u_194
            obtain ⟨f_195, l_195, u_195⟩ := z_add ex_195 rfl rfl
            try replace f_195 : x_195.toInt = x_194.toInt + (A_33 40 (x1.toInt + 43).toNat).toInt := by omega
            clear l_195 u_195
            show x_195.toInt = (x1.toInt + (A_33 40 (x1.toInt + 43).toNat).toInt + 710)
            omega
          have hl_hr_209 : 710 ≤ (A_33 40 (x1.toInt + 43).toNat).toInt + 710 ∧ (A_33 40 (x1.toInt + 43).toNat).toInt + 710 ≤ 769 := by
            omega
          have hid_hr_209 : (x1.toInt + (A_33 40 (x1.toInt + 43).toNat).toInt + 710) = x1.toInt + ((A_33 40 (x1.toInt + 43).toNat).toInt + 710) := by simp only [Int.add_assoc, Int.add_sub_assoc]
          have hr_209 := z_cell (lo := 470) (hi := 769) hp0 hi_hr_209 hid_hr_209 hl_hr_209 (by decide)
          replace hid_hr_209 : zEq (x1.toInt + (A_33 40 (x1.toInt + 43).toNat).toInt + 710) (x1.toInt + ((A_33 40 (x1.toInt + 43).toNat).toInt + 710)) := hid_hr_209
          have hin_210 : vp_in x_195 (zn K (zr K a0 0)) := vp_in_iff.mpr (by rw [(hf_1.2.2 (by decide))]; exact hr_209.in)
          refine mst_40 C hM hs hP hS hf_1.1 hT hf_1.2.1 hin_210 (tp_470 hr_209) dX12_doLay_158 (fun A_211 H locs hE_211 hT hP hS => ?_)
          have ep_212 : x_195.toNatClampNeg = (x1.toInt + (A_33 40 (x1.toInt + 43).toNat).toInt + 710).toNat := z_posE hi_hr_209
          rw [ep_212] at hE_211
          have FA := frA FA (frAu hE_211) (by decide)
          have FC := fC.tr FC (fC.st (b := x1.toInt) (lo := 710) (hi := 769) hE_211 hb0.1 (by decide) hid_hr_209 hl_hr_209) (by decide)
          have WZ := wz.st WZ hE_211 (Or.inr ⟨by omega, by omega, Or.inr (by omega)⟩)
          refine lv_aload_n hx hb dX12_doLay_159 rfl (lv_at hl 2 rfl) ?_
          refine mg_0 C hs hP ha0 hk0 wf_X12_8 dX12_doLay_160 ?_
          refine lv_iload_n hx hb dX12_doLay_163 rfl (lv_at hl 3 rfl) ?_
          refine lv_sipush (v := 770) hx hb dX12_doLay_164 (by decide) ?_
          refine lv_iadd hx hb dX12_doLay_167 ?_
          refine lv_topi (fun x_213 ex_213 => ?_)
          refine lv_iload hx hb dX12_doLay_168 (lv_at hl 0 rfl) ?_
          refine lv_iadd hx hb dX12_doLay_170 ?_
          refine lv_topi (fun x_214 ex_214 => ?_)
          refine lv_aload_n hx hb dX12_doLay_171 rfl (lv_at hl 2 rfl) ?_
          refine mg_0 C hs hP ha0 hk0 wf_X12_8 dX12_doLay_172 ?_
          refine lv_iload_n hx hb dX12_doLay_175 rfl (lv_at hl 3 rfl) ?_
          refine lv_bipush (v := 20) hx hb dX12_doLay_176 (by decide) ?_
          refine lv_iadd hx hb dX12_doLay_178 ?_
          refine lv_topi (fun x_215 ex_215 => ?_)
          have hi_hr_216 : zEq x_215.toInt (x1.toInt + 20) := by
            obtain ⟨f_215, l_215, u_215⟩ := z_add ex_215 rfl ti_20
            try replace f_215 : x_215.toInt = x1.toInt + 20 := by omega
            clear l_215 u_215
            show x_215.toInt = (x1.toInt + 20)
            omega
          have hl_hr_216 : (20 : Int) ≤ 20 ∧ 20 ≤ (20 : Int) := by decide
          have hid_hr_216 : (x1.toInt + 20) = x1.toInt + (20) := by simp only [Int.add_assoc, Int.add_sub_assoc]
          have hr_216 := z_cell (lo := 20) (hi := 21) hp0 hi_hr_216 hid_hr_216 hl_hr_216 (by decide)
          replace hid_hr_216 : zEq (x1.toInt + 20) (x1.toInt + (20)) := hid_hr_216
          have hin_217 : vp_in x_215 (zn K (zr K a0 0)) := vp_in_iff.mpr (by rw [(hf_1.2.2 (by decide))]; exact hr_216.in)
          refine mld_40 C hs hP hf_1.1 hf_1.2.1 hin_217 dX12_doLay_179 ?_
          have ep_218 : x_215.toNatClampNeg = (x1.toInt + 20).toNat := z_posE hi_hr_216
          rw [ep_218]
          obtain ⟨f_215, l_215, u_215⟩ := z_add ex_215 rfl ti_20
          try replace f_215 : x_215.toInt = x1.toInt + 20 := by omega
          clear l_215 u_215
          obtain ⟨f_194, l_194, u_194⟩ := z_add ex_194 rfl ti_710
          try replace f_194 : x_194.toInt = x1.toInt + 710 := by omega
          clear l_194 u_194
          obtain ⟨f_195, l_195, u_195⟩ := z_add ex_195 rfl rfl
          try replace f_195 : x_195.toInt = x_194.toInt + (A_33 40 (x1.toInt + 43).toNat).toInt := by omega
          clear l_195 u_195
          have hn_219 : (x1.toInt + 20).toNat ≠ (x1.toInt + (A_33 40 (x1.toInt + 43).toNat).toInt + 710).toNat := zNe (by omega) (by omega) (by omega)
          have hn_220 : (x1.toInt + 20).toNat ≠ (x1.toInt + (A_33 40 (x1.toInt + 43).toNat).toInt + 650).toNat := zNe (by omega) (by omega) (by omega)
          have ev_221 : A_211 40 (x1.toInt + 20).toNat = A_33 40 (x1.toInt + 20).toNat := by rw [hE_211, va_up_self, pk_un hn_219, hE_192, va_up_self, pk_un hn_220]
          have tv_222 := rv_20 hT hr_216
          rw [ep_218] at tv_222
          rw [ev_221] at tv_222
          rw [ev_221]
          have hi_hr_223 : zEq x_214.toInt (x1.toInt + (A_33 40 (x1.toInt + 43).toNat).toInt + 770) := by
            obtain ⟨f_213, l_213, u_213⟩ := z_add ex_213 rfl ti_770
            try replace f_213 : x_213.toInt = x1.toInt + 770 := by omega
            clear l_213 u_213
            obtain ⟨f_214, l_214, u_214⟩ := z_add ex_214 rfl rfl
            try replace f_214 : x_214.toInt = x_213.toInt + (A_33 40 (x1.toInt + 43).toNat).toInt := by omega
            clear l_214 u_214
            show x_214.toInt = (x1.toInt + (A_33 40 (x1.toInt + 43).toNat).toInt + 770)
            omega
          have hl_hr_223 : 770 ≤ (A_33 40 (x1.toInt + 43).toNat).toInt + 770 ∧ (A_33 40 (x1.toInt + 43).toNat).toInt + 770 ≤ 829 := by
            omega
          have hid_hr_223 : (x1.toInt + (A_33 40 (x1.toInt + 43).toNat).toInt + 770) = x1.toInt + ((A_33 40 (x1.toInt + 43).toNat).toInt + 770) := by simp only [Int.add_assoc, Int.add_sub_assoc]
          have hr_223 := z_cell (lo := 770) (hi := 829) hp0 hi_hr_223 hid_hr_223 hl_hr_223 (by decide)
          replace hid_hr_223 : zEq (x1.toInt + (A_33 40 (x1.toInt + 43).toNat).toInt + 770) (x1.toInt + ((A_33 40 (x1.toInt + 43).toNat).toInt + 770)) := hid_hr_223
          have hin_224 : vp_in x_214 (zn K (zr K a0 0)) := vp_in_iff.mpr (by rw [(hf_1.2.2 (by decide))]; exact hr_223.in)
          have g_226 := z_rng (A_33 40 (x1.toInt + 20).toNat)
          refine mst_40 C hM hs hP hS hf_1.1 hT hf_1.2.1 hin_224 (tp_770 hr_223 (show 0 ≤ (A_33 40 (x1.toInt + 20).toNat).toInt ∧ (A_33 40 (x1.toInt + 20).toNat).toInt ≤ 59 from by omega)) dX12_doLay_180 (fun A_225 H locs hE_225 hT hP hS => ?_)
          have ep_227 : x_214.toNatClampNeg = (x1.toInt + (A_33 40 (x1.toInt + 43).toNat).toInt + 770).toNat := z_posE hi_hr_223
          rw [ep_227] at hE_225
          have FA := frA FA (frAu hE_225) (by decide)
          have FC := fC.tr FC (fC.st (b := x1.toInt) (lo := 770) (hi := 829) hE_225 hb0.1 (by decide) hid_hr_223 hl_hr_223) (by decide)
          have WZ := wz.st WZ hE_225 (Or.inr ⟨by omega, by omega, Or.inr (by omega)⟩)
          refine lv_aload_n hx hb dX12_doLay_181 rfl (lv_at hl 2 rfl) ?_
          refine mg_0 C hs hP ha0 hk0 wf_X12_8 dX12_doLay_182 ?_
          refine lv_iload_n hx hb dX12_doLay_185 rfl (lv_at hl 3 rfl) ?_
          refine lv_sipush (v := 830) hx hb dX12_doLay_186 (by decide) ?_
          refine lv_iadd hx hb dX12_doLay_189 ?_
          refine lv_topi (fun x_228 ex_228 => ?_)
          refine lv_iload hx hb dX12_doLay_190 (lv_at hl 0 rfl) ?_
          refine lv_iadd hx hb dX12_doLay_192 ?_
          refine lv_topi (fun x_229 ex_229 => ?_)
          refine lv_iconst (v := 0) hx hb dX12_doLay_193 (by decide) ?_
          have hi_hr_230 : zEq x_229.toInt (x1.toInt + (A_33 40 (x1.toInt + 43).toNat).toInt + 830) := by
            obtain ⟨f_228, l_228, u_228⟩ := z_add ex_228 rfl ti_830
            try replace f_228 : x_228.toInt = x1.toInt + 830 := by omega
            clear l_228 u_228
            obtain ⟨f_229, l_229, u_229⟩ := z_add ex_229 rfl rfl
            try replace f_229 : x_229.toInt = x_228.toInt + (A_33 40 (x1.toInt + 43).toNat).toInt := by omega
            clear l_229 u_229
            show x_229.toInt = (x1.toInt + (A_33 40 (x1.toInt + 43).toNat).toInt + 830)
            omega
          have hl_hr_230 : 830 ≤ (A_33 40 (x1.toInt + 43).toNat).toInt + 830 ∧ (A_33 40 (x1.toInt + 43).toNat).toInt + 830 ≤ 889 := by
            omega
          have hid_hr_230 : (x1.toInt + (A_33 40 (x1.toInt + 43).toNat).toInt + 830) = x1.toInt + ((A_33 40 (x1.toInt + 43).toNat).toInt + 830) := by simp only [Int.add_assoc, Int.add_sub_assoc]
          have hr_230 := z_cell (lo := 830) (hi := 1289) hp0 hi_hr_230 hid_hr_230 hl_hr_230 (by decide)
          replace hid_hr_230 : zEq (x1.toInt + (A_33 40 (x1.toInt + 43).toNat).toInt + 830) (x1.toInt + ((A_33 40 (x1.toInt + 43).toNat).toInt + 830)) := hid_hr_230
          have hin_231 : vp_in x_229 (zn K (zr K a0 0)) := vp_in_iff.mpr (by rw [(hf_1.2.2 (by decide))]; exact hr_230.in)
          refine mst_40 C hM hs hP hS hf_1.1 hT hf_1.2.1 hin_231 (tp_830 hr_230) dX12_doLay_194 (fun A_232 H locs hE_232 hT hP hS => ?_)
          have ep_233 : x_229.toNatClampNeg = (x1.toInt + (A_33 40 (x1.toInt + 43).toNat).toInt + 830).toNat := z_posE hi_hr_230
          rw [ep_233] at hE_232
          have FA := frA FA (frAu hE_232) (by decide)
          have FC := fC.tr FC (fC.st (b := x1.toInt) (lo := 830) (hi := 889) hE_232 hb0.1 (by decide) hid_hr_230 hl_hr_230) (by decide)
          have WZ := wz.st WZ hE_232 (Or.inr ⟨by omega, by omega, Or.inr (by omega)⟩)
          refine lv_aload_n hx hb dX12_doLay_195 rfl (lv_at hl 2 rfl) ?_
          refine mg_0 C hs hP ha0 hk0 wf_X12_8 dX12_doLay_196 ?_
          refine lv_iload_n hx hb dX12_doLay_199 rfl (lv_at hl 3 rfl) ?_
          refine lv_bipush (v := 43) hx hb dX12_doLay_200 (by decide) ?_
          refine lv_iadd hx hb dX12_doLay_202 ?_
          refine lv_topi (fun x_234 ex_234 => ?_)
          refine lv_dup2_11 hx hb dX12_doLay_203 rfl rfl ?_
          have hi_hr_235 : zEq x_234.toInt (x1.toInt + 43) := by
            obtain ⟨f_234, l_234, u_234⟩ := z_add ex_234 rfl ti_43
            try replace f_234 : x_234.toInt = x1.toInt + 43 := by omega
            clear l_234 u_234
            show x_234.toInt = (x1.toInt + 43)
            omega
          have hl_hr_235 : (43 : Int) ≤ 43 ∧ 43 ≤ (43 : Int) := by decide
          have hid_hr_235 : (x1.toInt + 43) = x1.toInt + (43) := by simp only [Int.add_assoc, Int.add_sub_assoc]
          have hr_235 := z_cell (lo := 43) (hi := 43) hp0 hi_hr_235 hid_hr_235 hl_hr_235 (by decide)
          replace hid_hr_235 : zEq (x1.toInt + 43) (x1.toInt + (43)) := hid_hr_235
          have hin_236 : vp_in x_234 (zn K (zr K a0 0)) := vp_in_iff.mpr (by rw [(hf_1.2.2 (by decide))]; exact hr_235.in)
          refine mld_40 C hs hP hf_1.1 hf_1.2.1 hin_236 dX12_doLay_204 ?_
          have ep_237 : x_234.toNatClampNeg = (x1.toInt + 43).toNat := z_posE hi_hr_235
          rw [ep_237]
          obtain ⟨f_234, l_234, u_234⟩ := z_add ex_234 rfl ti_43
          try replace f_234 : x_234.toInt = x1.toInt + 43 := by omega
          clear l_234 u_234
          obtain ⟨f_228, l_228, u_228⟩ := z_add ex_228 rfl ti_830
          try replace f_228 : x_228.toInt = x1.toInt + 830 := by omega
          clear l_228 u_228
          obtain ⟨f_229, l_229, u_229⟩ := z_add ex_229 rfl rfl
          try replace f_229 : x_229.toInt = x_228.toInt + (A_33 40 (x1.toInt + 43).toNat).toInt := by omega
          clear l_229 u_229
          have hn_238 : (x1.toInt + 43).toNat ≠ (x1.toInt + (A_33 40 (x1.toInt + 43).toNat).toInt + 830).toNat := zNe (by omega) (by omega) (by omega)
          obtain ⟨f_213, l_213, u_213⟩ := z_add ex_213 rfl ti_770
          try replace f_213 : x_213.toInt = x1.toInt + 770 := by omega
          clear l_213 u_213
          obtain ⟨f_214, l_214, u_214⟩ := z_add ex_214 rfl rfl
          try replace f_214 : x_214.toInt = x_213.toInt + (A_33 40 (x1.toInt + 43).toNat).toInt := by omega
          clear l_214 u_214
          have hn_239 : (x1.toInt + 43).toNat ≠ (x1.toInt + (A_33 40 (x1.toInt + 43).toNat).toInt + 770).toNat := zNe (by omega) (by omega) (by omega)
          have hn_240 : (x1.toInt + 43).toNat ≠ (x1.toInt + (A_33 40 (x1.toInt + 43).toNat).toInt + 710).toNat := zNe (by omega) (by omega) (by omega)
          have hn_241 : (x1.toInt + 43).toNat ≠ (x1.toInt + (A_33 40 (x1.toInt + 43).toNat).toInt + 650).toNat := zNe (by omega) (by omega) (by omega)
          have ev_242 : A_232 40 (x1.toInt + 43).toNat = A_33 40 (x1.toInt + 43).toNat := by rw [hE_232, va_up_self, pk_un hn_238, hE_225, va_up_self, pk_un hn_239, hE_211, va_up_self, pk_un hn_240, hE_192, va_up_self, pk_un hn_241]
          rw [ev_242]
          refine lv_iconst (v := 1) hx hb dX12_doLay_205 (by decide) ?_
          refine lv_iadd hx hb dX12_doLay_206 ?_
          refine lv_topi (fun x_243 ex_243 => ?_)
          have hin_244 : vp_in x_234 (zn K (zr K a0 0)) := vp_in_iff.mpr (by rw [(hf_1.2.2 (by decide))]; exact hr_235.in)
          obtain ⟨f_243, l_243, u_243⟩ := z_add ex_243 rfl ti_1
          try replace f_243 : x_243.toInt = (A_33 40 (x1.toInt + 43).toNat).toInt + 1 := by omega
          clear l_243 u_243
          refine mst_40 C hM hs hP hS hf_1.1 hT hf_1.2.1 hin_244 (tp_43 hr_235 (show 0 ≤ x_243.toInt ∧ x_243.toInt ≤ 60 from by omega)) dX12_doLay_207 (fun A_245 H locs hE_245 hT hP hS => ?_)
          have ep_246 : x_234.toNatClampNeg = (x1.toInt + 43).toNat := z_posE hi_hr_235
          rw [ep_246] at hE_245
          have FA := frA FA (frAu hE_245) (by decide)
          have FC := fC.tr FC (fC.st (b := x1.toInt) (lo := 43) (hi := 43) hE_245 hb0.1 (by decide) hid_hr_235 hl_hr_235) (by decide)
          have WZ := wz.st WZ hE_245 (Or.inr ⟨by omega, by omega, Or.inl (by omega)⟩)
          refine lv_aload_n hx hb dX12_doLay_208 rfl (lv_at hl 2 rfl) ?_
          refine mg_0 C hs hP ha0 hk0 wf_X12_8 dX12_doLay_209 ?_
          refine lv_iload_n hx hb dX12_doLay_212 rfl (lv_at hl 3 rfl) ?_
          refine lv_bipush (v := 14) hx hb dX12_doLay_213 (by decide) ?_
          refine lv_iadd hx hb dX12_doLay_215 ?_
          refine lv_topi (fun x_247 ex_247 => ?_)
          refine lv_iconst (v := 1) hx hb dX12_doLay_216 (by decide) ?_
          have hi_hr_248 : zEq x_247.toInt (x1.toInt + 14) := by
            obtain ⟨f_247, l_247, u_247⟩ := z_add ex_247 rfl ti_14
            try replace f_247 : x_247.toInt = x1.toInt + 14 := by omega
            clear l_247 u_247
            show x_247.toInt = (x1.toInt + 14)
            omega
          have hl_hr_248 : (14 : Int) ≤ 14 ∧ 14 ≤ (14 : Int) := by decide
          have hid_hr_248 : (x1.toInt + 14) = x1.toInt + (14) := by simp only [Int.add_assoc, Int.add_sub_assoc]
          have hr_248 := z_cell (lo := 10) (hi := 19) hp0 hi_hr_248 hid_hr_248 hl_hr_248 (by decide)
          replace hid_hr_248 : zEq (x1.toInt + 14) (x1.toInt + (14)) := hid_hr_248
          have hin_249 : vp_in x_247 (zn K (zr K a0 0)) := vp_in_iff.mpr (by rw [(hf_1.2.2 (by decide))]; exact hr_248.in)
          refine mst_40 C hM hs hP hS hf_1.1 hT hf_1.2.1 hin_249 (tp_10 hr_248) dX12_doLay_217 (fun A_250 H locs hE_250 hT hP hS => ?_)
          have ep_251 : x_247.toNatClampNeg = (x1.toInt + 14).toNat := z_posE hi_hr_248
          rw [ep_251] at hE_250
          have FA := frA FA (frAu hE_250) (by decide)
          have FC := fC.tr FC (fC.st (b := x1.toInt) (lo := 14) (hi := 14) hE_250 hb0.1 (by decide) hid_hr_248 hl_hr_248) (by decide)
          have WZ := wz.st WZ hE_250 (Or.inr ⟨by omega, by omega, Or.inl (by omega)⟩)
          refine lv_aload_n hx hb dX12_doLay_218 rfl (lv_at hl 2 rfl) ?_
          refine mg_0 C hs hP ha0 hk0 wf_X12_8 dX12_doLay_219 ?_
          refine lv_iload_n hx hb dX12_doLay_222 rfl (lv_at hl 3 rfl) ?_
          refine lv_bipush (v := 27) hx hb dX12_doLay_223 (by decide) ?_
          refine lv_iadd hx hb dX12_doLay_225 ?_
          refine lv_topi (fun x_252 ex_252 => ?_)
          refine lv_aload_n hx hb dX12_doLay_226 rfl (lv_at hl 2 rfl) ?_
          refine mg_0 C hs hP ha0 hk0 wf_X12_8 dX12_doLay_227 ?_
          refine lv_iload_n hx hb dX12_doLay_230 rfl (lv_at hl 3 rfl) ?_
          refine lv_bipush (v := 26) hx hb dX12_doLay_231 (by decide) ?_
          refine lv_iadd hx hb dX12_doLay_233 ?_
          refine lv_topi (fun x_253 ex_253 => ?_)
          have hi_hr_254 : zEq x_253.toInt (x1.toInt + 26) := by
            obtain ⟨f_253, l_253, u_253⟩ := z_add ex_253 rfl ti_26
            try replace f_253 : x_253.toInt = x1.toInt + 26 := by omega
            clear l_253 u_253
            show x_253.toInt = (x1.toInt + 26)
            omega
          have hl_hr_254 : (26 : Int) ≤ 26 ∧ 26 ≤ (26 : Int) := by decide
          have hid_hr_254 : (x1.toInt + 26) = x1.toInt + (26) := by simp only [Int.add_assoc, Int.add_sub_assoc]
          have hr_254 := z_cell (lo := 26) (hi := 26) hp0 hi_hr_254 hid_hr_254 hl_hr_254 (by decide)
          replace hid_hr_254 : zEq (x1.toInt + 26) (x1.toInt + (26)) := hid_hr_254
          have hin_255 : vp_in x_253 (zn K (zr K a0 0)) := vp_in_iff.mpr (by rw [(hf_1.2.2 (by decide))]; exact hr_254.in)
          refine mld_40 C hs hP hf_1.1 hf_1.2.1 hin_255 dX12_doLay_234 ?_
          have ep_256 : x_253.toNatClampNeg = (x1.toInt + 26).toNat := z_posE hi_hr_254
          rw [ep_256]
          obtain ⟨f_253, l_253, u_253⟩ := z_add ex_253 rfl ti_26
          try replace f_253 : x_253.toInt = x1.toInt + 26 := by omega
          clear l_253 u_253
          obtain ⟨f_247, l_247, u_247⟩ := z_add ex_247 rfl ti_14
          try replace f_247 : x_247.toInt = x1.toInt + 14 := by omega
          clear l_247 u_247
          have hn_257 : (x1.toInt + 26).toNat ≠ (x1.toInt + 14).toNat := zNe (by omega) (by omega) (by omega)
          have hn_258 : (x1.toInt + 26).toNat ≠ (x1.toInt + 43).toNat := zNe (by omega) (by omega) (by omega)
          have hn_259 : (x1.toInt + 26).toNat ≠ (x1.toInt + (A_33 40 (x1.toInt + 43).toNat).toInt + 830).toNat := zNe (by omega) (by omega) (by omega)
          have hn_260 : (x1.toInt + 26).toNat ≠ (x1.toInt + (A_33 40 (x1.toInt + 43).toNat).toInt + 770).toNat := zNe (by omega) (by omega) (by omega)
          have hn_261 : (x1.toInt + 26).toNat ≠ (x1.toInt + (A_33 40 (x1.toInt + 43).toNat).toInt + 710).toNat := zNe (by omega) (by omega) (by omega)
          have hn_262 : (x1.toInt + 26).toNat ≠ (x1.toInt + (A_33 40 (x1.toInt + 43).toNat).toInt + 650).toNat := zNe (by omega) (by omega) (by omega)
          have ev_263 : A_250 40 (x1.toInt + 26).toNat = A_33 40 (x1.toInt + 26).toNat := by rw [hE_250, va_up_self, pk_un hn_257, hE_245, va_up_self, pk_un hn_258, hE_232, va_up_self, pk_un hn_259, hE_225, va_up_self, pk_un hn_260, hE_211, va_up_self, pk_un hn_261, hE_192, va_up_self, pk_un hn_262]
          have tv_264 := rv_26 hT hr_254
          rw [ep_256] at tv_264
          rw [ev_263] at tv_264
          rw [ev_263]
          refine lv_iadd hx hb dX12_doLay_235 ?_
          refine lv_topi (fun x_265 ex_265 => ?_)
          refine lv_iload hx hb dX12_doLay_236 (lv_at hl 1 rfl) ?_
          have hi_hr_266 : zEq x_265.toInt (x1.toInt + (A_33 40 (x1.toInt + 26).toNat).toInt + 27) := by
            obtain ⟨f_252, l_252, u_252⟩ := z_add ex_252 rfl ti_27
            try replace f_252 : x_252.toInt = x1.toInt + 27 := by omega
            clear l_252 u_252
            have g_267 := z_rng (A_33 40 (x1.toInt + 26).toNat)
            obtain ⟨f_265, l_265, u_265⟩ := z_add ex_265 rfl rfl
            try replace f_265 : x_265.toInt = x_252.toInt + (A_33 40 (x1.toInt + 26).toNat).toInt := by omega
            clear l_265 u_265
            show x_265.toInt = (x1.toInt + (A_33 40 (x1.toInt + 26).toNat).toInt + 27)
            omega
          have hl_hr_266 : 27 ≤ (A_33 40 (x1.toInt + 26).toNat).toInt + 27 ∧ (A_33 40 (x1.toInt + 26).toNat).toInt + 27 ≤ 30 := by
            have g_268 := z_rng (A_33 40 (x1.toInt + 26).toNat)
            omega
          have hid_hr_266 : (x1.toInt + (A_33 40 (x1.toInt + 26).toNat).toInt + 27) = x1.toInt + ((A_33 40 (x1.toInt + 26).toNat).toInt + 27) := by simp only [Int.add_assoc, Int.add_sub_assoc]
          have hr_266 := z_cell (lo := 27) (hi := 30) hp0 hi_hr_266 hid_hr_266 hl_hr_266 (by decide)
          replace hid_hr_266 : zEq (x1.toInt + (A_33 40 (x1.toInt + 26).toNat).toInt + 27) (x1.toInt + ((A_33 40 (x1.toInt + 26).toNat).toInt + 27)) := hid_hr_266
          have hin_269 : vp_in x_265 (zn K (zr K a0 0)) := vp_in_iff.mpr (by rw [(hf_1.2.2 (by decide))]; exact hr_266.in)
          have g_271 := z_rng (A 40 (x1.toInt + 60 * x3.toInt + x4.toInt + 230).toNat)
          refine mst_40 C hM hs hP hS hf_1.1 hT hf_1.2.1 hin_269 (tp_27 hr_266 (show 0 ≤ (A 40 (x1.toInt + 60 * x3.toInt + x4.toInt + 230).toNat).toInt ∧ (A 40 (x1.toInt + 60 * x3.toInt + x4.toInt + 230).toNat).toInt ≤ 59 from by omega)) dX12_doLay_238 (fun A_270 H locs hE_270 hT hP hS => ?_)
          have ep_272 : x_265.toNatClampNeg = (x1.toInt + (A_33 40 (x1.toInt + 26).toNat).toInt + 27).toNat := z_posE hi_hr_266
          rw [ep_272] at hE_270
          have FA := frA FA (frAu hE_270) (by decide)
          have FC := fC.tr FC (fC.st (b := x1.toInt) (lo := 27) (hi := 30) hE_270 hb0.1 (by decide) hid_hr_266 hl_hr_266) (by decide)
          have WZ := wz.st WZ hE_270 (Or.inr ⟨by omega, by omega, Or.inl (by omega)⟩)
          refine lv_aload_n hx hb dX12_doLay_239 rfl (lv_at hl 2 rfl) ?_
          refine mg_0 C hs hP ha0 hk0 wf_X12_8 dX12_doLay_240 ?_
          refine lv_iload_n hx hb dX12_doLay_243 rfl (lv_at hl 3 rfl) ?_
          refine lv_bipush (v := 31) hx hb dX12_doLay_244 (by decide) ?_
          refine lv_iadd hx hb dX12_doLay_246 ?_
          refine lv_topi (fun x_273 ex_273 => ?_)
          refine lv_aload_n hx hb dX12_doLay_247 rfl (lv_at hl 2 rfl) ?_
          refine mg_0 C hs hP ha0 hk0 wf_X12_8 dX12_doLay_248 ?_
          refine lv_iload_n hx hb dX12_doLay_251 rfl (lv_at hl 3 rfl) ?_
          refine lv_bipush (v := 26) hx hb dX12_doLay_252 (by decide) ?_
          refine lv_iadd hx hb dX12_doLay_254 ?_
          refine lv_topi (fun x_274 ex_274 => ?_)
          have hi_hr_275 : zEq x_274.toInt (x1.toInt + 26) := by
            obtain ⟨f_274, l_274, u_274⟩ := z_add ex_274 rfl ti_26
            try replace f_274 : x_274.toInt = x1.toInt + 26 := by omega
            clear l_274 u_274
            show x_274.toInt = (x1.toInt + 26)
            omega
          have hl_hr_275 : (26 : Int) ≤ 26 ∧ 26 ≤ (26 : Int) := by decide
          have hid_hr_275 : (x1.toInt + 26) = x1.toInt + (26) := by simp only [Int.add_assoc, Int.add_sub_assoc]
          have hr_275 := z_cell (lo := 26) (hi := 26) hp0 hi_hr_275 hid_hr_275 hl_hr_275 (by decide)
          replace hid_hr_275 : zEq (x1.toInt + 26) (x1.toInt + (26)) := hid_hr_275
          have hin_276 : vp_in x_274 (zn K (zr K a0 0)) := vp_in_iff.mpr (by rw [(hf_1.2.2 (by decide))]; exact hr_275.in)
          refine mld_40 C hs hP hf_1.1 hf_1.2.1 hin_276 dX12_doLay_255 ?_
          have ep_277 : x_274.toNatClampNeg = (x1.toInt + 26).toNat := z_posE hi_hr_275
          rw [ep_277]
          obtain ⟨f_274, l_274, u_274⟩ := z_add ex_274 rfl ti_26
          try replace f_274 : x_274.toInt = x1.toInt + 26 := by omega
          clear l_274 u_274
          obtain ⟨f_252, l_252, u_252⟩ := z_add ex_252 rfl ti_27
          try replace f_252 : x_252.toInt = x1.toInt + 27 := by omega
          clear l_252 u_252
          have g_279 := z_rng (A_33 40 (x1.toInt + 26).toNat)
          obtain ⟨f_265, l_265, u_265⟩ := z_add ex_265 rfl rfl
          try replace f_265 : x_265.toInt = x_252.toInt + (A_33 40 (x1.toInt + 26).toNat).toInt := by omega
          clear l_265 u_265
          have hn_278 : (x1.toInt + 26).toNat ≠ (x1.toInt + (A_33 40 (x1.toInt + 26).toNat).toInt + 27).toNat := zNe (by omega) (by omega) (by omega)
          have hn_280 : (x1.toInt + 26).toNat ≠ (x1.toInt + 14).toNat := zNe (by omega) (by omega) (by omega)
          have hn_281 : (x1.toInt + 26).toNat ≠ (x1.toInt + 43).toNat := zNe (by omega) (by omega) (by omega)
          have hn_282 : (x1.toInt + 26).toNat ≠ (x1.toInt + (A_33 40 (x1.toInt + 43).toNat).toInt + 830).toNat := zNe (by omega) (by omega) (by omega)
          have hn_283 : (x1.toInt + 26).toNat ≠ (x1.toInt + (A_33 40 (x1.toInt + 43).toNat).toInt + 770).toNat := zNe (by omega) (by omega) (by omega)
          have hn_284 : (x1.toInt + 26).toNat ≠ (x1.toInt + (A_33 40 (x1.toInt + 43).toNat).toInt + 710).toNat := zNe (by omega) (by omega) (by omega)
          have hn_285 : (x1.toInt + 26).toNat ≠ (x1.toInt + (A_33 40 (x1.toInt + 43).toNat).toInt + 650).toNat := zNe (by omega) (by omega) (by omega)
          have ev_286 : A_270 40 (x1.toInt + 26).toNat = A_33 40 (x1.toInt + 26).toNat := by rw [hE_270, va_up_self, pk_un hn_278, hE_250, va_up_self, pk_un hn_280, hE_245, va_up_self, pk_un hn_281, hE_232, va_up_self, pk_un hn_282, hE_225, va_up_self, pk_un hn_283, hE_211, va_up_self, pk_un hn_284, hE_192, va_up_self, pk_un hn_285]
          rw [ev_286]
          refine lv_iadd hx hb dX12_doLay_256 ?_
          refine lv_topi (fun x_287 ex_287 => ?_)
          refine lv_iload_n hx hb dX12_doLay_257 rfl (lv_at hl 5 rfl) ?_
          have hi_hr_288 : zEq x_287.toInt (x1.toInt + (A_33 40 (x1.toInt + 26).toNat).toInt + 31) := by
            obtain ⟨f_273, l_273, u_273⟩ := z_add ex_273 rfl ti_31
            try replace f_273 : x_273.toInt = x1.toInt + 31 := by omega
            clear l_273 u_273
            obtain ⟨f_287, l_287, u_287⟩ := z_add ex_287 rfl rfl
            try replace f_287 : x_287.toInt = x_273.toInt + (A_33 40 (x1.toInt + 26).toNat).toInt := by omega
            clear l_287 u_287
            show x_287.toInt = (x1.toInt + (A_33 40 (x1.toInt + 26).toNat).toInt + 31)
            omega
          have hl_hr_288 : 31 ≤ (A_33 40 (x1.toInt + 26).toNat).toInt + 31 ∧ (A_33 40 (x1.toInt + 26).toNat).toInt + 31 ≤ 34 := by
            omega
          have hid_hr_288 : (x1.toInt + (A_33 40 (x1.toInt + 26).toNat).toInt + 31) = x1.toInt + ((A_33 40 (x1.toInt + 26).toNat).toInt + 31) := by simp only [Int.add_assoc, Int.add_sub_assoc]
          have hr_288 := z_cell (lo := 31) (hi := 34) hp0 hi_hr_288 hid_hr_288 hl_hr_288 (by decide)
          replace hid_hr_288 : zEq (x1.toInt + (A_33 40 (x1.toInt + 26).toNat).toInt + 31) (x1.toInt + ((A_33 40 (x1.toInt + 26).toNat).toInt + 31)) := hid_hr_288
          have hin_289 : vp_in x_287 (zn K (zr K a0 0)) := vp_in_iff.mpr (by rw [(hf_1.2.2 (by decide))]; exact hr_288.in)
          have g_291 := z_rng x3
          refine mst_40 C hM hs hP hS hf_1.1 hT hf_1.2.1 hin_289 (tp_31 hr_288 (show 0 ≤ x3.toInt ∧ x3.toInt ≤ 3 from by omega)) dX12_doLay_258 (fun A_290 H locs hE_290 hT hP hS => ?_)
          have ep_292 : x_287.toNatClampNeg = (x1.toInt + (A_33 40 (x1.toInt + 26).toNat).toInt + 31).toNat := z_posE hi_hr_288
          rw [ep_292] at hE_290
          have FA := frA FA (frAu hE_290) (by decide)
          have FC := fC.tr FC (fC.st (b := x1.toInt) (lo := 31) (hi := 34) hE_290 hb0.1 (by decide) hid_hr_288 hl_hr_288) (by decide)
          have WZ := wz.st WZ hE_290 (Or.inr ⟨by omega, by omega, Or.inl (by omega)⟩)
          refine lv_aload_n hx hb dX12_doLay_259 rfl (lv_at hl 2 rfl) ?_
          refine mg_0 C hs hP ha0 hk0 wf_X12_8 dX12_doLay_260 ?_
          refine lv_iload_n hx hb dX12_doLay_263 rfl (lv_at hl 3 rfl) ?_
          refine lv_bipush (v := 26) hx hb dX12_doLay_264 (by decide) ?_
          refine lv_iadd hx hb dX12_doLay_266 ?_
          refine lv_topi (fun x_293 ex_293 => ?_)
          refine lv_dup2_11 hx hb dX12_doLay_267 rfl rfl ?_
          have hi_hr_294 : zEq x_293.toInt (x1.toInt + 26) := by
            obtain ⟨f_293, l_293, u_293⟩ := z_add ex_293 rfl ti_26
            try replace f_293 : x_293.toInt = x1.toInt + 26 := by omega
            clear l_293 u_293
            show x_293.toInt = (x1.toInt + 26)
            omega
          have hl_hr_294 : (26 : Int) ≤ 26 ∧ 26 ≤ (26 : Int) := by decide
          have hid_hr_294 : (x1.toInt + 26) = x1.toInt + (26) := by simp only [Int.add_assoc, Int.add_sub_assoc]
          have hr_294 := z_cell (lo := 26) (hi := 26) hp0 hi_hr_294 hid_hr_294 hl_hr_294 (by decide)
          replace hid_hr_294 : zEq (x1.toInt + 26) (x1.toInt + (26)) := hid_hr_294
          have hin_295 : vp_in x_293 (zn K (zr K a0 0)) := vp_in_iff.mpr (by rw [(hf_1.2.2 (by decide))]; exact hr_294.in)
          refine mld_40 C hs hP hf_1.1 hf_1.2.1 hin_295 dX12_doLay_268 ?_
          have ep_296 : x_293.toNatClampNeg = (x1.toInt + 26).toNat := z_posE hi_hr_294
          rw [ep_296]
          obtain ⟨f_293, l_293, u_293⟩ := z_add ex_293 rfl ti_26
          try replace f_293 : x_293.toInt = x1.toInt + 26 := by omega
          clear l_293 u_293
          obtain ⟨f_273, l_273, u_273⟩ := z_add ex_273 rfl ti_31
          try replace f_273 : x_273.toInt = x1.toInt + 31 := by omega
          clear l_273 u_273
          obtain ⟨f_287, l_287, u_287⟩ := z_add ex_287 rfl rfl
          try replace f_287 : x_287.toInt = x_273.toInt + (A_33 40 (x1.toInt + 26).toNat).toInt := by omega
          clear l_287 u_287
          have hn_297 : (x1.toInt + 26).toNat ≠ (x1.toInt + (A_33 40 (x1.toInt + 26).toNat).toInt + 31).toNat := zNe (by omega) (by omega) (by omega)
          have hn_298 : (x1.toInt + 26).toNat ≠ (x1.toInt + (A_33 40 (x1.toInt + 26).toNat).toInt + 27).toNat := zNe (by omega) (by omega) (by omega)
          have hn_299 : (x1.toInt + 26).toNat ≠ (x1.toInt + 14).toNat := zNe (by omega) (by omega) (by omega)
          have hn_300 : (x1.toInt + 26).toNat ≠ (x1.toInt + 43).toNat := zNe (by omega) (by omega) (by omega)
          have hn_301 : (x1.toInt + 26).toNat ≠ (x1.toInt + (A_33 40 (x1.toInt + 43).toNat).toInt + 830).toNat := zNe (by omega) (by omega) (by omega)
          have hn_302 : (x1.toInt + 26).toNat ≠ (x1.toInt + (A_33 40 (x1.toInt + 43).toNat).toInt + 770).toNat := zNe (by omega) (by omega) (by omega)
          have hn_303 : (x1.toInt + 26).toNat ≠ (x1.toInt + (A_33 40 (x1.toInt + 43).toNat).toInt + 710).toNat := zNe (by omega) (by omega) (by omega)
          have hn_304 : (x1.toInt + 26).toNat ≠ (x1.toInt + (A_33 40 (x1.toInt + 43).toNat).toInt + 650).toNat := zNe (by omega) (by omega) (by omega)
          have ev_305 : A_290 40 (x1.toInt + 26).toNat = A_33 40 (x1.toInt + 26).toNat := by rw [hE_290, va_up_self, pk_un hn_297, hE_270, va_up_self, pk_un hn_298, hE_250, va_up_self, pk_un hn_299, hE_245, va_up_self, pk_un hn_300, hE_232, va_up_self, pk_un hn_301, hE_225, va_up_self, pk_un hn_302, hE_211, va_up_self, pk_un hn_303, hE_192, va_up_self, pk_un hn_304]
          rw [ev_305]
          refine lv_iconst (v := 1) hx hb dX12_doLay_269 (by decide) ?_
          refine lv_iadd hx hb dX12_doLay_270 ?_
          refine lv_topi (fun x_306 ex_306 => ?_)
          have hin_307 : vp_in x_293 (zn K (zr K a0 0)) := vp_in_iff.mpr (by rw [(hf_1.2.2 (by decide))]; exact hr_294.in)
          obtain ⟨f_306, l_306, u_306⟩ := z_add ex_306 rfl ti_1
          try replace f_306 : x_306.toInt = (A_33 40 (x1.toInt + 26).toNat).toInt + 1 := by omega
          clear l_306 u_306
          refine mst_40 C hM hs hP hS hf_1.1 hT hf_1.2.1 hin_307 (tp_26 hr_294 (show 0 ≤ x_306.toInt ∧ x_306.toInt ≤ 4 from by omega)) dX12_doLay_271 (fun A_308 H locs hE_308 hT hP hS => ?_)
          have ep_309 : x_293.toNatClampNeg = (x1.toInt + 26).toNat := z_posE hi_hr_294
          rw [ep_309] at hE_308
          have FA := frA FA (frAu hE_308) (by decide)
          have FC := fC.tr FC (fC.st (b := x1.toInt) (lo := 26) (hi := 26) hE_308 hb0.1 (by decide) hid_hr_294 hl_hr_294) (by decide)
          have WZ := wz.st WZ hE_308 (Or.inr ⟨by omega, by omega, Or.inl (by omega)⟩)
          refine lv_aload_n hx hb dX12_doLay_272 rfl (lv_at hl 2 rfl) ?_
          refine mg_0 C hs hP ha0 hk0 wf_X12_8 dX12_doLay_273 ?_
          refine lv_iload_n hx hb dX12_doLay_276 rfl (lv_at hl 3 rfl) ?_
          refine lv_bipush (v := 110) hx hb dX12_doLay_277 (by decide) ?_
          refine lv_iadd hx hb dX12_doLay_279 ?_
          refine lv_topi (fun x_310 ex_310 => ?_)
          refine lv_iload hx hb dX12_doLay_280 (lv_at hl 1 rfl) ?_
          refine lv_iadd hx hb dX12_doLay_282 ?_
          refine lv_topi (fun x_311 ex_311 => ?_)
          refine lv_iconst (v := 5) hx hb dX12_doLay_283 (by decide) ?_
          have hi_hr_312 : zEq x_311.toInt (x1.toInt + (A 40 (x1.toInt + 60 * x3.toInt + x4.toInt + 230).toNat).toInt + 110) := by
            obtain ⟨f_310, l_310, u_310⟩ := z_add ex_310 rfl ti_110
            try replace f_310 : x_310.toInt = x1.toInt + 110 := by omega
            clear l_310 u_310
            obtain ⟨f_311, l_311, u_311⟩ := z_add ex_311 rfl rfl
            try replace f_311 : x_311.toInt = x_310.toInt + (A 40 (x1.toInt + 60 * x3.toInt + x4.toInt + 230).toNat).toInt := by omega
            clear l_311 u_311
            show x_311.toInt = (x1.toInt + (A 40 (x1.toInt + 60 * x3.toInt + x4.toInt + 230).toNat).toInt + 110)
            omega
          have hl_hr_312 : 110 ≤ (A 40 (x1.toInt + 60 * x3.toInt + x4.toInt + 230).toNat).toInt + 110 ∧ (A 40 (x1.toInt + 60 * x3.toInt + x4.toInt + 230).toNat).toInt + 110 ≤ 169 := by
            omega
          have hid_hr_312 : (x1.toInt + (A 40 (x1.toInt + 60 * x3.toInt + x4.toInt + 230).toNat).toInt + 110) = x1.toInt + ((A 40 (x1.toInt + 60 * x3.toInt + x4.toInt + 230).toNat).toInt + 110) := by simp only [Int.add_assoc, Int.add_sub_assoc]
          have hr_312 := z_cell (lo := 45) (hi := 169) hp0 hi_hr_312 hid_hr_312 hl_hr_312 (by decide)
          replace hid_hr_312 : zEq (x1.toInt + (A 40 (x1.toInt + 60 * x3.toInt + x4.toInt + 230).toNat).toInt + 110) (x1.toInt + ((A 40 (x1.toInt + 60 * x3.toInt + x4.toInt + 230).toNat).toInt + 110)) := hid_hr_312
          have hin_313 : vp_in x_311 (zn K (zr K a0 0)) := vp_in_iff.mpr (by rw [(hf_1.2.2 (by decide))]; exact hr_312.in)
          refine mst_40 C hM hs hP hS hf_1.1 hT hf_1.2.1 hin_313 (tp_45 hr_312) dX12_doLay_284 (fun A_314 H locs hE_314 hT hP hS => ?_)
          have ep_315 : x_311.toNatClampNeg = (x1.toInt + (A 40 (x1.toInt + 60 * x3.toInt + x4.toInt + 230).toNat).toInt + 110).toNat := z_posE hi_hr_312
          rw [ep_315] at hE_314
          have FA := frA FA (frAu hE_314) (by decide)
          have FC := fC.tr FC (fC.st (b := x1.toInt) (lo := 110) (hi := 169) hE_314 hb0.1 (by decide) hid_hr_312 hl_hr_312) (by decide)
          have WZ := wz.st WZ hE_314 (Or.inl (by rw [ti_5]; decide))
          refine lv_aload_n hx hb dX12_doLay_285 rfl (lv_at hl 2 rfl) ?_
          refine lv_iload_n hx hb dX12_doLay_286 rfl (lv_at hl 3 rfl) ?_
          refine lv_iload_n hx hb dX12_doLay_287 rfl (lv_at hl 5 rfl) ?_
          refine lv_aload_n hx hb dX12_doLay_288 rfl (lv_at hl 2 rfl) ?_
          refine lv_iload_n hx hb dX12_doLay_289 rfl (lv_at hl 3 rfl) ?_
          refine lv_iload hx hb dX12_doLay_290 (lv_at hl 1 rfl) ?_
          have hq_316 : 0 ≤ (A 40 (x1.toInt + 60 * x3.toInt + x4.toInt + 230).toNat).toInt ∧ (A 40 (x1.toInt + 60 * x3.toInt + x4.toInt + 230).toNat).toInt ≤ 59 := by (first | assumption | omega | (intros; omega))
          refine zcS (zrV (As := [.int x1, .int (A 40 (x1.toInt + 60 * x3.toInt + x4.toInt + 230).toNat)]) (b := a0) (rest := [.int x3, .int x1, .ref a0]) C hs hP hS (c_X12_colour l D K hM f A_314 hT a0 ha0 hk0 x1 (A 40 (x1.toInt + 60 * x3.toInt + x4.toInt + 230).toNat) hp0 hq_316) m_X12_colour wm_X12_120 (zrecv hs hP ha0 (zF_11 hk0) rfl) ⟨by decide, by decide⟩ hl.1 (Nat.le_of_ble_eq_true rfl) dX12_doLay_292) (fun x_317 p_317 => ?_)
          have pp_317 : x_317 = mcol (A_314 40) x1 (A 40 (x1.toInt + 60 * x3.toInt + x4.toInt + 230).toNat) := p_317
          have pq_317 := congrArg Int32.toInt pp_317
          have g_318 := z_rng x_317
          have hq_319 : 0 ≤ x3.toInt ∧ x3.toInt ≤ 3 := by (first | assumption | omega | (intros; omega))
          refine mcV (zrV (As := [.int x1, .int x3, .int x_317]) (b := a0) (rest := []) C hs hP hS (c_X12_showFound l D K hM f A_314 hT a0 ha0 hk0 x1 x3 x_317 hp0 hq_319) m_X12_showFound wm_X12_214 (zrecv hs hP ha0 (zF_11 hk0) rfl) ⟨by decide, by decide⟩ hl.1 (Nat.le_of_ble_eq_true rfl) dX12_doLay_295) hS (fun f_320 A_320 H locs p_320 hP hS => ?_)
          obtain ⟨hT, hA_320, hF_320, hC_320, hW_320⟩ := p_320
          have hff_320 : f = f_320 := funext (fun k9 => (hF_320 k9 List.not_mem_nil).symm)
          subst hff_320
          have FA := frA FA hA_320 (by decide)
          have FF := frF FF hF_320 (by decide)
          have FC := fC.tr FC hC_320 (by decide)
          have WZ := wz.tr WZ hW_320
          refine lv_aload_n hx hb dX12_doLay_298 rfl (lv_at hl 2 rfl) ?_
          refine mg_0 C hs hP ha0 hk0 wf_X12_8 dX12_doLay_299 ?_
          refine lv_iload_n hx hb dX12_doLay_302 rfl (lv_at hl 3 rfl) ?_
          refine lv_bipush (v := 9) hx hb dX12_doLay_303 (by decide) ?_
          refine lv_iadd hx hb dX12_doLay_305 ?_
          refine lv_topi (fun x_321 ex_321 => ?_)
          refine lv_aload_n hx hb dX12_doLay_306 rfl (lv_at hl 2 rfl) ?_
          refine lv_iload_n hx hb dX12_doLay_307 rfl (lv_at hl 3 rfl) ?_
          refine lv_iload_n hx hb dX12_doLay_308 rfl (lv_at hl 5 rfl) ?_
          refine lv_iconst (v := 1) hx hb dX12_doLay_309 (by decide) ?_
          refine lv_iadd hx hb dX12_doLay_310 ?_
          refine lv_topi (fun x_322 ex_322 => ?_)
          refine lv_iconst (v := 4) hx hb dX12_doLay_311 (by decide) ?_
          refine lv_irem hx hb dX12_doLay_312 (by decide) ?_
          refine lv_topi (fun x_323 ex_323 => ?_)
          obtain ⟨f_322, l_322, u_322⟩ := z_add ex_322 rfl ti_1
          try replace f_322 : x_322.toInt = x3.toInt + 1 := by omega
          clear l_322 u_322
          have f_323 := z_rem ex_323 rfl ti_4 (by decide)
          have hq_324 : 0 ≤ x_323.toInt ∧ x_323.toInt ≤ 4 := by (first | assumption | omega | (intros; omega))
          refine zcS (zrV (As := [.int x1, .int x_323]) (b := a0) (rest := [.int x_321, .ref (zr K a0 0)]) C hs hP hS (c_X12_seatFrom l D K hM f A_320 hT a0 ha0 hk0 x1 x_323 hp0 hq_324) m_X12_seatFrom wm_X12_162 (zrecv hs hP ha0 (zF_11 hk0) rfl) ⟨by decide, by decide⟩ hl.1 (Nat.le_of_ble_eq_true rfl) dX12_doLay_313) (fun x_325 p_325 => ?_)
          have pp_325 : (x_325.toInt = -1 ∨ (0 ≤ x_325.toInt ∧ x_325.toInt ≤ 3 ∧ 1 ≤ (A_320 40 (x1.toInt + x_325.toInt + 22).toNat).toInt ∧ nL (A_320 40) x1.toInt x_325.toInt (A_320 40 (x1.toInt + 26).toNat).toInt)) := p_325
          have tRs := hT.row hp0
          have sfp_325 := zHid.mk pp_325
          clear pp_325
          have FCs := FC
          have WZs := WZ
          have fq_327 : fC (A_33 40) (A_192 40) x1.toInt ([(14, 14), (15, 18), (26, 26), (27, 30), (31, 34), (43, 43), (110, 169), (530, 589), (650, 709), (710, 769), (770, 829), (830, 889)] : List (Int × Int)) := fC.tr fC.rf (fC.s2 (lo := 650) (hi := 709) hE_192 hb0.1 (by decide) ⟨by omega, by omega⟩) (by decide)
          have fq_328 : fC (A_33 40) (A_211 40) x1.toInt ([(14, 14), (15, 18), (26, 26), (27, 30), (31, 34), (43, 43), (110, 169), (530, 589), (650, 709), (710, 769), (770, 829), (830, 889)] : List (Int × Int)) := fC.tr fq_327 (fC.s2 (lo := 710) (hi := 769) hE_211 hb0.1 (by decide) ⟨by omega, by omega⟩) (by decide)
          have fq_329 : fC (A_33 40) (A_225 40) x1.toInt ([(14, 14), (15, 18), (26, 26), (27, 30), (31, 34), (43, 43), (110, 169), (530, 589), (650, 709), (710, 769), (770, 829), (830, 889)] : List (Int × Int)) := fC.tr fq_328 (fC.s2 (lo := 770) (hi := 829) hE_225 hb0.1 (by decide) ⟨by omega, by omega⟩) (by decide)
          have fq_330 : fC (A_33 40) (A_232 40) x1.toInt ([(14, 14), (15, 18), (26, 26), (27, 30), (31, 34), (43, 43), (110, 169), (530, 589), (650, 709), (710, 769), (770, 829), (830, 889)] : List (Int × Int)) := fC.tr fq_329 (fC.s2 (lo := 830) (hi := 889) hE_232 hb0.1 (by decide) ⟨by omega, by omega⟩) (by decide)
          have fq_331 : fC (A_33 40) (A_245 40) x1.toInt ([(14, 14), (15, 18), (26, 26), (27, 30), (31, 34), (43, 43), (110, 169), (530, 589), (650, 709), (710, 769), (770, 829), (830, 889)] : List (Int × Int)) := fC.tr fq_330 (fC.s2 (lo := 43) (hi := 43) hE_245 hb0.1 (by decide) ⟨by omega, by omega⟩) (by decide)
          have fq_332 : fC (A_33 40) (A_250 40) x1.toInt ([(14, 14), (15, 18), (26, 26), (27, 30), (31, 34), (43, 43), (110, 169), (530, 589), (650, 709), (710, 769), (770, 829), (830, 889)] : List (Int × Int)) := fC.tr fq_331 (fC.s2 (lo := 14) (hi := 14) hE_250 hb0.1 (by decide) ⟨by omega, by omega⟩) (by decide)
          have fq_333 : fC (A_33 40) (A_270 40) x1.toInt ([(14, 14), (15, 18), (26, 26), (27, 30), (31, 34), (43, 43), (110, 169), (530, 589), (650, 709), (710, 769), (770, 829), (830, 889)] : List (Int × Int)) := fC.tr fq_332 (fC.s2 (lo := 27) (hi := 30) hE_270 hb0.1 (by decide) ⟨by omega, by omega⟩) (by decide)
          have fq_334 : fC (A_33 40) (A_290 40) x1.toInt ([(14, 14), (15, 18), (26, 26), (27, 30), (31, 34), (43, 43), (110, 169), (530, 589), (650, 709), (710, 769), (770, 829), (830, 889)] : List (Int × Int)) := fC.tr fq_333 (fC.s2 (lo := 31) (hi := 34) hE_290 hb0.1 (by decide) ⟨by omega, by omega⟩) (by decide)
          have fq_335 : fC (A_33 40) (A_308 40) x1.toInt ([(14, 14), (15, 18), (26, 26), (27, 30), (31, 34), (43, 43), (110, 169), (530, 589), (650, 709), (710, 769), (770, 829), (830, 889)] : List (Int × Int)) := fC.tr fq_334 (fC.s2 (lo := 26) (hi := 26) hE_308 hb0.1 (by decide) ⟨by omega, by omega⟩) (by decide)
          have fq_336 : fC (A_33 40) (A_314 40) x1.toInt ([(14, 14), (15, 18), (26, 26), (27, 30), (31, 34), (43, 43), (110, 169), (530, 589), (650, 709), (710, 769), (770, 829), (830, 889)] : List (Int × Int)) := fC.tr fq_335 (fC.s2 (lo := 110) (hi := 169) hE_314 hb0.1 (by decide) ⟨by omega, by omega⟩) (by decide)
          have fq_337 : fC (A_33 40) (A_320 40) x1.toInt ([(14, 14), (15, 18), (26, 26), (27, 30), (31, 34), (43, 43), (110, 169), (530, 589), (650, 709), (710, 769), (770, 829), (830, 889)] : List (Int × Int)) := fC.tr fq_336 hC_320 (by decide)
          have rq_326 : ∀ j : Int, x1.toInt + 22 ≤ j → j ≤ x1.toInt + 25 → A_320 40 j.toNat = A_33 40 j.toNat := fun j h1 h2 => fC.ar fq_337 hb0.1 (lo := 22) (hi := 25) (by decide) j (by decide) h1 h2
          obtain ⟨f_310, l_310, u_310⟩ := z_add ex_310 rfl ti_110
          try replace f_310 : x_310.toInt = x1.toInt + 110 := by omega
          clear l_310 u_310
          obtain ⟨f_311, l_311, u_311⟩ := z_add ex_311 rfl rfl
          try replace f_311 : x_311.toInt = x_310.toInt + (A 40 (x1.toInt + 60 * x3.toInt + x4.toInt + 230).toNat).toInt := by omega
          clear l_311 u_311
          have es_338 : A_320 40 (x1.toInt + 26).toNat = x_306 := by rw [hC_320.ar (by omega) (lo := 26) (hi := 26) (by decide) (x1.toInt + 26) (by decide) (by omega) (by omega), hE_314, va_up_self, pk_un (zNe (i := (x1.toInt + 26)) (j := (x1.toInt + (A 40 (x1.toInt + 60 * x3.toInt + x4.toInt + 230).toNat).toInt + 110)) (by omega) (by omega) (by omega)), hE_308, va_up_self, pk_us]
          have es_339 : A_320 40 (x1.toInt + 20).toNat = A_33 40 (x1.toInt + 20).toNat := by rw [hC_320.ar (by omega) (lo := 20) (hi := 20) (by decide) (x1.toInt + 20) (by decide) (by omega) (by omega), hE_314, va_up_self, pk_un (zNe (i := (x1.toInt + 20)) (j := (x1.toInt + (A 40 (x1.toInt + 60 * x3.toInt + x4.toInt + 230).toNat).toInt + 110)) (by omega) (by omega) (by omega)), hE_308, va_up_self, pk_un (zNe (i := (x1.toInt + 20)) (j := (x1.toInt + 26)) (by omega) (by omega) (by omega)), hE_290, va_up_self, pk_un (zNe (i := (x1.toInt + 20)) (j := (x1.toInt + (A_33 40 (x1.toInt + 26).toNat).toInt + 31)) (by omega) (by omega) (by omega)), hE_270, va_up_self, pk_un (zNe (i := (x1.toInt + 20)) (j := (x1.toInt + (A_33 40 (x1.toInt + 26).toNat).toInt + 27)) (by omega) (by omega) (by omega)), hE_250, va_up_self, pk_un (zNe (i := (x1.toInt + 20)) (j := (x1.toInt + 14)) (by omega) (by omega) (by omega)), hE_245, va_up_self, pk_un (zNe (i := (x1.toInt + 20)) (j := (x1.toInt + 43)) (by omega) (by omega) (by omega)), hE_232, va_up_self, pk_un (zNe (i := (x1.toInt + 20)) (j := (x1.toInt + (A_33 40 (x1.toInt + 43).toNat).toInt + 830)) (by omega) (by omega) (by omega)), hE_225, va_up_self, pk_un (zNe (i := (x1.toInt + 20)) (j := (x1.toInt + (A_33 40 (x1.toInt + 43).toNat).toInt + 770)) (by omega) (by omega) (by omega)), hE_211, va_up_self, pk_un (zNe (i := (x1.toInt + 20)) (j := (x1.toInt + (A_33 40 (x1.toInt + 43).toNat).toInt + 710)) (by omega) (by omega) (by omega)), hE_192, va_up_self, pk_un (zNe (i := (x1.toInt + 20)) (j := (x1.toInt + (A_33 40 (x1.toInt + 43).toNat).toInt + 650)) (by omega) (by omega) (by omega))]
          have es_340 : A_320 40 (x1.toInt + 43).toNat = x_243 := by rw [hC_320.ar (by omega) (lo := 43) (hi := 43) (by decide) (x1.toInt + 43) (by decide) (by omega) (by omega), hE_314, va_up_self, pk_un (zNe (i := (x1.toInt + 43)) (j := (x1.toInt + (A 40 (x1.toInt + 60 * x3.toInt + x4.toInt + 230).toNat).toInt + 110)) (by omega) (by omega) (by omega)), hE_308, va_up_self, pk_un (zNe (i := (x1.toInt + 43)) (j := (x1.toInt + 26)) (by omega) (by omega) (by omega)), hE_290, va_up_self, pk_un (zNe (i := (x1.toInt + 43)) (j := (x1.toInt + (A_33 40 (x1.toInt + 26).toNat).toInt + 31)) (by omega) (by omega) (by omega)), hE_270, va_up_self, pk_un (zNe (i := (x1.toInt + 43)) (j := (x1.toInt + (A_33 40 (x1.toInt + 26).toNat).toInt + 27)) (by omega) (by omega) (by omega)), hE_250, va_up_self, pk_un (zNe (i := (x1.toInt + 43)) (j := (x1.toInt + 14)) (by omega) (by omega) (by omega)), hE_245, va_up_self, pk_us]
          have rKs := hp3.2.2.fw hb0.1 FC WZ tR0.p1.2 tR0.p21.2 (by decide) (by decide) (by decide)
          have e21s := FC.ar hb0.1 (lo := 21) (hi := 21) (by decide) (x1.toInt + 21) (by decide) (by omega) (by omega)
          have els : ∀ i : Int, 0 ≤ i → i < (A 40 (x1.toInt + 26).toNat).toInt → A_320 40 (x1.toInt + i + 31).toNat = A 40 (x1.toInt + i + 31).toNat := fun i h1 h2 => by
            rw [hC_320.ar hb0.1 (lo := 31) (hi := 34) (by decide) (x1.toInt + i + 31) (by decide) (by omega) (by omega), hE_314, va_up_self, pk_un (zNe (i := (x1.toInt + i + 31)) (j := (x1.toInt + (A 40 (x1.toInt + 60 * x3.toInt + x4.toInt + 230).toNat).toInt + 110)) (by omega) (by omega) (by omega)), hE_308, va_up_self, pk_un (zNe (i := (x1.toInt + i + 31)) (j := (x1.toInt + 26)) (by omega) (by omega) (by omega)), hE_290, va_up_self, pk_un (zNe (i := (x1.toInt + i + 31)) (j := (x1.toInt + (A_33 40 (x1.toInt + 26).toNat).toInt + 31)) (by omega) (by omega) (by omega)), hE_270, va_up_self, pk_un (zNe (i := (x1.toInt + i + 31)) (j := (x1.toInt + (A_33 40 (x1.toInt + 26).toNat).toInt + 27)) (by omega) (by omega) (by omega)), hE_250, va_up_self, pk_un (zNe (i := (x1.toInt + i + 31)) (j := (x1.toInt + 14)) (by omega) (by omega) (by omega)), hE_245, va_up_self, pk_un (zNe (i := (x1.toInt + i + 31)) (j := (x1.toInt + 43)) (by omega) (by omega) (by omega)), hE_232, va_up_self, pk_un (zNe (i := (x1.toInt + i + 31)) (j := (x1.toInt + (A_33 40 (x1.toInt + 43).toNat).toInt + 830)) (by omega) (by omega) (by omega)), hE_225, va_up_self, pk_un (zNe (i := (x1.toInt + i + 31)) (j := (x1.toInt + (A_33 40 (x1.toInt + 43).toNat).toInt + 770)) (by omega) (by omega) (by omega)), hE_211, va_up_self, pk_un (zNe (i := (x1.toInt + i + 31)) (j := (x1.toInt + (A_33 40 (x1.toInt + 43).toNat).toInt + 710)) (by omega) (by omega) (by omega)), hE_192, va_up_self, pk_un (zNe (i := (x1.toInt + i + 31)) (j := (x1.toInt + (A_33 40 (x1.toInt + 43).toNat).toInt + 650)) (by omega) (by omega) (by omega))]
            exact iv_33_1.ar hb0.1 (lo := 31) (hi := 34) (by decide) (x1.toInt + i + 31) (by decide) (by omega) (by omega)
          have ens : (A_320 40 (x1.toInt + (A 40 (x1.toInt + 26).toNat).toInt + 31).toNat).toInt = x3.toInt := by
            rw [← e26q]
            rw [hC_320.ar hb0.1 (lo := 31) (hi := 34) (by decide) (x1.toInt + (A_33 40 (x1.toInt + 26).toNat).toInt + 31) (by decide) (by omega) (by omega), hE_314, va_up_self, pk_un (zNe (i := (x1.toInt + (A_33 40 (x1.toInt + 26).toNat).toInt + 31)) (j := (x1.toInt + (A 40 (x1.toInt + 60 * x3.toInt + x4.toInt + 230).toNat).toInt + 110)) (by omega) (by omega) (by omega)), hE_308, va_up_self, pk_un (zNe (i := (x1.toInt + (A_33 40 (x1.toInt + 26).toNat).toInt + 31)) (j := (x1.toInt + 26)) (by omega) (by omega) (by omega)), hE_290, va_up_self, pk_us]
          have rPs := rowP.dl (C1 := A_320 40) hp3 tR0 hp1 hp4 (by omega) (by unfold hd; rw [rq_326 (x1.toInt + x3.toInt + 22) (by omega) (by omega)]; exact iv_33_2) (fun q9 h1 h2 h3 => by unfold hd; rw [rq_326 (x1.toInt + q9 + 22) (by omega) (by omega), iv_33_3 q9 h1 h2 h3]) (by rw [e21s]) (by rw [es_339, e20q]) (by rw [es_338]; omega) (by rw [es_340]; omega) els ens rKs
          have hi_hr_341 : zEq x_321.toInt (x1.toInt + 9) := by
            obtain ⟨f_321, l_321, u_321⟩ := z_add ex_321 rfl ti_9
            try replace f_321 : x_321.toInt = x1.toInt + 9 := by omega
            clear l_321 u_321
            show x_321.toInt = (x1.toInt + 9)
            omega
          have hl_hr_341 : (9 : Int) ≤ 9 ∧ 9 ≤ (9 : Int) := by decide
          have hid_hr_341 : (x1.toInt + 9) = x1.toInt + (9) := by simp only [Int.add_assoc, Int.add_sub_assoc]
          have hr_341 := z_cell (lo := 9) (hi := 9) hp0 hi_hr_341 hid_hr_341 hl_hr_341 (by decide)
          replace hid_hr_341 : zEq (x1.toInt + 9) (x1.toInt + (9)) := hid_hr_341
          have hin_342 : vp_in x_321 (zn K (zr K a0 0)) := vp_in_iff.mpr (by rw [(hf_1.2.2 (by decide))]; exact hr_341.in)
          have g_344 := z_rng x_325
          refine mst_40 C hM hs hP hS hf_1.1 hT hf_1.2.1 hin_342 (tp_9 hr_341 (show -1 ≤ x_325.toInt ∧ x_325.toInt ≤ 3 from by omega)) dX12_doLay_316 (fun A_343 H locs hE_343 hT hP hS => ?_)
          have ep_345 : x_321.toNatClampNeg = (x1.toInt + 9).toNat := z_posE hi_hr_341
          rw [ep_345] at hE_343
          have FA := frA FA (frAu hE_343) (by decide)
          have FC := fC.tr FC (fC.st (b := x1.toInt) (lo := 9) (hi := 9) hE_343 hb0.1 (by decide) hid_hr_341 hl_hr_341) (by decide)
          have WZ := wz.st WZ hE_343 (Or.inr ⟨by omega, by omega, Or.inl (by omega)⟩)
          have hRN := rowN.nx rPs tRs hb0.1 hE_343 sfp_325
          refine lv_aload_n hx hb dX12_doLay_317 rfl (lv_at hl 2 rfl) ?_
          refine mg_0 C hs hP ha0 hk0 wf_X12_8 dX12_doLay_318 ?_
          refine lv_iload_n hx hb dX12_doLay_321 rfl (lv_at hl 3 rfl) ?_
          refine lv_bipush (v := 9) hx hb dX12_doLay_322 (by decide) ?_
          refine lv_iadd hx hb dX12_doLay_324 ?_
          refine lv_topi (fun x_346 ex_346 => ?_)
          have hi_hr_347 : zEq x_346.toInt (x1.toInt + 9) := by
            obtain ⟨f_346, l_346, u_346⟩ := z_add ex_346 rfl ti_9
            try replace f_346 : x_346.toInt = x1.toInt + 9 := by omega
            clear l_346 u_346
            show x_346.toInt = (x1.toInt + 9)
            omega
          have hl_hr_347 : (9 : Int) ≤ 9 ∧ 9 ≤ (9 : Int) := by decide
          have hid_hr_347 : (x1.toInt + 9) = x1.toInt + (9) := by simp only [Int.add_assoc, Int.add_sub_assoc]
          have hr_347 := z_cell (lo := 9) (hi := 9) hp0 hi_hr_347 hid_hr_347 hl_hr_347 (by decide)
          replace hid_hr_347 : zEq (x1.toInt + 9) (x1.toInt + (9)) := hid_hr_347
          have hin_348 : vp_in x_346 (zn K (zr K a0 0)) := vp_in_iff.mpr (by rw [(hf_1.2.2 (by decide))]; exact hr_347.in)
          refine mld_40 C hs hP hf_1.1 hf_1.2.1 hin_348 dX12_doLay_325 ?_
          have ep_349 : x_346.toNatClampNeg = (x1.toInt + 9).toNat := z_posE hi_hr_347
          rw [ep_349]
          have ev_350 : A_343 40 (x1.toInt + 9).toNat = x_325 := by rw [hE_343, va_up_self, pk_us]
          have tv_351 := rv_9 hT hr_347
          rw [ep_349] at tv_351
          rw [ev_350] at tv_351
          rw [ev_350]
          refine lv_iconst (v := (-1)) hx hb dX12_doLay_326 (by decide) ?_
          refine bi_ne (tgt := 336) hx hb rfl ti_m1 dX12_doLay_327 (by decide) (fun c_352 => ?_) (fun c_352 => ?_)
          · skip
            exact maV hQ hx hb hr hlk hP hS ⟨hT, FA, FF, FC, WZ, ⟨by omega, by omega, by omega, by omega, fun h9 => by omega, hRN⟩⟩ dX12_doLay_336
          · skip
            refine lv_aload_n hx hb dX12_doLay_330 rfl (lv_at hl 2 rfl) ?_
            refine lv_iload_n hx hb dX12_doLay_331 rfl (lv_at hl 3 rfl) ?_
            refine lv_iload_n hx hb dX12_doLay_332 rfl (lv_at hl 4 rfl) ?_
            have g_353 := z_rng x2
            have hq_354 : rowP (A_343 40) x1.toInt := by exact hRN.1
            obtain ⟨f_321, l_321, u_321⟩ := z_add ex_321 rfl ti_9
            try replace f_321 : x_321.toInt = x1.toInt + 9 := by omega
            clear l_321 u_321
            have es_356 : A_343 40 (x1.toInt + 26).toNat = x_306 := by rw [hE_343, va_up_self, pk_un (zNe (i := (x1.toInt + 26)) (j := (x1.toInt + 9)) (by omega) (by omega) (by omega)), hC_320.ar (by omega) (lo := 26) (hi := 26) (by decide) (x1.toInt + 26) (by decide) (by omega) (by omega), hE_314, va_up_self, pk_un (zNe (i := (x1.toInt + 26)) (j := (x1.toInt + (A 40 (x1.toInt + 60 * x3.toInt + x4.toInt + 230).toNat).toInt + 110)) (by omega) (by omega) (by omega)), hE_308, va_up_self, pk_us]
            have hq_355 : 1 ≤ (A_343 40 (x1.toInt + 26).toNat).toInt := by rw [es_356] <;> (first | assumption | omega | (intros; omega))
            have hq_357 : (f 11).toInt ≤ 1960000000 := by (first | assumption | omega | (intros; omega))
            have hq_358 : (f 9).toInt ≤ 1960000000 := by (first | assumption | omega | (intros; omega))
            refine mcV (zrV (As := [.int x1, .int x2]) (b := a0) (rest := []) C hs hP hS (c_X12_endTrick l D K hM f A_343 hT a0 ha0 hk0 x1 x2 hp0 hq_354 hq_355 hq_357 hq_358) m_X12_endTrick wm_X12_217 (zrecv hs hP ha0 (zF_11 hk0) rfl) ⟨by decide, by decide⟩ hl.1 (Nat.le_of_ble_eq_true rfl) dX12_doLay_333) hS (fun f_359 A_359 H locs p_359 hP hS => ?_)
            obtain ⟨hT, hA_359, hF_359, hC_359, hW_359, pp_359⟩ := p_359
            have pp_359 : (f 9).toInt ≤ (f_359 9).toInt ∧ (f_359 9).toInt ≤ (f 9).toInt + 2 ∧ (f 11).toInt ≤ (f_359 11).toInt ∧ (f_359 11).toInt ≤ (f 11).toInt + 13 ∧ ((f 12).toInt ≠ 0 → (f_359 11).toInt = (f 11).toInt) ∧ rowN (A_359 40) x1.toInt := pp_359
            have pp0_359 := zHid.mk pp_359
            have pc_359 := pp_359.1
            have pd_359 := pp_359.2.1
            have pa_359 := pp_359.2.2.1
            have pb_359 := pp_359.2.2.2.1
            have qq_359 := zHid.mk pp_359.2.2.2.2.1
            replace pp_359 := pp_359.2.2.2.2.2
            have FA := frA FA hA_359 (by decide)
            have FF := frF FF hF_359 (by decide)
            have FC := fC.tr FC hC_359 (by decide)
            have WZ := wz.tr WZ hW_359
            have hRN := pp0_359.2.2.2.2.2
            exact maV hQ hx hb hr hlk hP hS ⟨hT, FA, FF, FC, WZ, ⟨by omega, by omega, by omega, by omega, fun h9 => by have hq0 := qq_359 h9; omega, hRN⟩⟩ dX12_doLay_336
      · skip
        refine lv_aload_n hx hb dX12_doLay_55 rfl (lv_at hl 2 rfl) ?_
        refine mg_0 C hs hP ha0 hk0 wf_X12_8 dX12_doLay_56 ?_
        refine lv_iload_n hx hb dX12_doLay_59 rfl (lv_at hl 3 rfl) ?_
        refine lv_sipush (v := 230) hx hb dX12_doLay_60 (by decide) ?_
        refine lv_iadd hx hb dX12_doLay_63 ?_
        refine lv_topi (fun x_360 ex_360 => ?_)
        refine lv_bipush (v := 60) hx hb dX12_doLay_64 (by decide) ?_
        refine lv_iload_n hx hb dX12_doLay_66 rfl (lv_at hl 5 rfl) ?_
        refine lv_imul hx hb dX12_doLay_67 ?_
        refine lv_topi (fun x_361 ex_361 => ?_)
        refine lv_iadd hx hb dX12_doLay_68 ?_
        refine lv_topi (fun x_362 ex_362 => ?_)
        refine lv_iload hx hb dX12_doLay_69 (lv_at hl 0 rfl) ?_
        refine lv_iadd hx hb dX12_doLay_71 ?_
        refine lv_topi (fun x_363 ex_363 => ?_)
        refine lv_aload_n hx hb dX12_doLay_72 rfl (lv_at hl 2 rfl) ?_
        refine mg_0 C hs hP ha0 hk0 wf_X12_8 dX12_doLay_73 ?_
        refine lv_iload_n hx hb dX12_doLay_76 rfl (lv_at hl 3 rfl) ?_
        refine lv_sipush (v := 230) hx hb dX12_doLay_77 (by decide) ?_
        refine lv_iadd hx hb dX12_doLay_80 ?_
        refine lv_topi (fun x_364 ex_364 => ?_)
        refine lv_bipush (v := 60) hx hb dX12_doLay_81 (by decide) ?_
        refine lv_iload_n hx hb dX12_doLay_83 rfl (lv_at hl 5 rfl) ?_
        refine lv_imul hx hb dX12_doLay_84 ?_
        refine lv_topi (fun x_365 ex_365 => ?_)
        refine lv_iadd hx hb dX12_doLay_85 ?_
        refine lv_topi (fun x_366 ex_366 => ?_)
        refine lv_iload hx hb dX12_doLay_86 (lv_at hl 0 rfl) ?_
        refine lv_iadd hx hb dX12_doLay_88 ?_
        refine lv_topi (fun x_367 ex_367 => ?_)
        refine lv_iconst (v := 1) hx hb dX12_doLay_89 (by decide) ?_
        refine lv_iadd hx hb dX12_doLay_90 ?_
        refine lv_topi (fun x_368 ex_368 => ?_)
        have hi_hr_369 : zEq x_368.toInt (x1.toInt + 60 * x3.toInt + y_31.toInt + 231) := by
          have g_370 := z_rng x1
          obtain ⟨f_364, l_364, u_364⟩ := z_add ex_364 rfl ti_230
          try replace f_364 : x_364.toInt = x1.toInt + 230 := by omega
          clear l_364 u_364
          have g_371 := z_rng x3
          obtain ⟨f_365, l_365, u_365⟩ := z_mul ex_365 ti_60 rfl
          try replace f_365 : x_365.toInt = 60 * x3.toInt := by omega
          clear l_365 u_365
          obtain ⟨f_366, l_366, u_366⟩ := z_add ex_366 rfl rfl
          try replace f_366 : x_366.toInt = x_364.toInt + x_365.toInt := by omega
          clear l_366 u_366
          have g_372 := z_rng y_31
          obtain ⟨f_367, l_367, u_367⟩ := z_add ex_367 rfl rfl
          try replace f_367 : x_367.toInt = x_366.toInt + y_31.toInt := by omega
          clear l_367 u_367
          obtain ⟨f_368, l_368, u_368⟩ := z_add ex_368 rfl ti_1
          try replace f_368 : x_368.toInt = x_367.toInt + 1 := by omega
          clear l_368 u_368
          show x_368.toInt = (x1.toInt + 60 * x3.toInt + y_31.toInt + 231)
          omega
        have hl_hr_369 : 230 ≤ 60 * x3.toInt + y_31.toInt + 231 ∧ 60 * x3.toInt + y_31.toInt + 231 ≤ 469 := by
          have g_373 := z_rng x1
          have g_374 := z_rng x3
          have g_375 := z_rng y_31
          omega
        have hid_hr_369 : (x1.toInt + 60 * x3.toInt + y_31.toInt + 231) = x1.toInt + (60 * x3.toInt + y_31.toInt + 231) := by simp only [Int.add_assoc, Int.add_sub_assoc]
        have hr_369 := z_cell (lo := 170) (hi := 469) hp0 hi_hr_369 hid_hr_369 hl_hr_369 (by decide)
        replace hid_hr_369 : zEq (x1.toInt + 60 * x3.toInt + y_31.toInt + 231) (x1.toInt + (60 * x3.toInt + y_31.toInt + 231)) := hid_hr_369
        have hin_376 : vp_in x_368 (zn K (zr K a0 0)) := vp_in_iff.mpr (by rw [(hf_1.2.2 (by decide))]; exact hr_369.in)
        refine mld_40 C hs hP hf_1.1 hf_1.2.1 hin_376 dX12_doLay_91 ?_
        have ep_377 : x_368.toNatClampNeg = (x1.toInt + 60 * x3.toInt + y_31.toInt + 231).toNat := z_posE hi_hr_369
        rw [ep_377]
        have tv_378 := rv_170 hT hr_369
        rw [ep_377] at tv_378
        have hi_hr_379 : zEq x_363.toInt (x1.toInt + 60 * x3.toInt + y_31.toInt + 230) := by
          have g_380 := z_rng x1
          obtain ⟨f_360, l_360, u_360⟩ := z_add ex_360 rfl ti_230
          try replace f_360 : x_360.toInt = x1.toInt + 230 := by omega
          clear l_360 u_360
          have g_381 := z_rng x3
          obtain ⟨f_361, l_361, u_361⟩ := z_mul ex_361 ti_60 rfl
          try replace f_361 : x_361.toInt = 60 * x3.toInt := by omega
          clear l_361 u_361
          obtain ⟨f_362, l_362, u_362⟩ := z_add ex_362 rfl rfl
          try replace f_362 : x_362.toInt = x_360.toInt + x_361.toInt := by omega
          clear l_362 u_362
          have g_382 := z_rng y_31
          obtain ⟨f_363, l_363, u_363⟩ := z_add ex_363 rfl rfl
          try replace f_363 : x_363.toInt = x_362.toInt + y_31.toInt := by omega
          clear l_363 u_363
          show x_363.toInt = (x1.toInt + 60 * x3.toInt + y_31.toInt + 230)
          omega
        have hl_hr_379 : 230 ≤ 60 * x3.toInt + y_31.toInt + 230 ∧ 60 * x3.toInt + y_31.toInt + 230 ≤ 469 := by
          have g_383 := z_rng x1
          have g_384 := z_rng x3
          have g_385 := z_rng y_31
          omega
        have hid_hr_379 : (x1.toInt + 60 * x3.toInt + y_31.toInt + 230) = x1.toInt + (60 * x3.toInt + y_31.toInt + 230) := by simp only [Int.add_assoc, Int.add_sub_assoc]
        have hr_379 := z_cell (lo := 170) (hi := 469) hp0 hi_hr_379 hid_hr_379 hl_hr_379 (by decide)
        replace hid_hr_379 : zEq (x1.toInt + 60 * x3.toInt + y_31.toInt + 230) (x1.toInt + (60 * x3.toInt + y_31.toInt + 230)) := hid_hr_379
        have hin_386 : vp_in x_363 (zn K (zr K a0 0)) := vp_in_iff.mpr (by rw [(hf_1.2.2 (by decide))]; exact hr_379.in)
        have g_388 := z_rng (A_33 40 (x1.toInt + 60 * x3.toInt + y_31.toInt + 231).toNat)
        refine mst_40 C hM hs hP hS hf_1.1 hT hf_1.2.1 hin_386 (tp_170 hr_379 (show 0 ≤ (A_33 40 (x1.toInt + 60 * x3.toInt + y_31.toInt + 231).toNat).toInt ∧ (A_33 40 (x1.toInt + 60 * x3.toInt + y_31.toInt + 231).toNat).toInt ≤ 59 from by omega)) dX12_doLay_92 (fun A_387 H locs hE_387 hT hP hS => ?_)
        have ep_389 : x_363.toNatClampNeg = (x1.toInt + 60 * x3.toInt + y_31.toInt + 230).toNat := z_posE hi_hr_379
        rw [ep_389] at hE_387
        have FA := frA FA (frAu hE_387) (by decide)
        have FC := fC.tr FC (fC.st (b := x1.toInt) (lo := 230) (hi := 469) hE_387 hb0.1 (by decide) hid_hr_379 hl_hr_379) (by decide)
        have WZ := wz.st WZ hE_387 (Or.inr ⟨by omega, by omega, Or.inr (by omega)⟩)
        obtain ⟨x_390, ex_390⟩ : ∃ y : Int32, y = y_31 + 1 := ⟨_, rfl⟩
        refine lv_iinc (v := x_390) (lv' := [(6, .int x_390), (5, .int (A 40 (x1.toInt + 60 * x3.toInt + x4.toInt + 230).toNat)), (0, .ref a0), (1, .int x1), (2, .int x2), (3, .int x3), (4, .int x4)]) hx hb dX12_doLay_93 hl (k := 0) rfl (by rw [ex_390]; rfl) (by decide) rfl (fun ls hl => ?_)
        refine lv_goto (tgt := 39) hx hb dX12_doLay_96 (by decide) ?_
        have g_391 := z_rng y_31
        obtain ⟨f_390, l_390, u_390⟩ := z_add ex_390 rfl ti_1
        try replace f_390 : x_390.toInt = y_31.toInt + 1 := by omega
        clear l_390 u_390
        have g_392 := z_rng (A_33 40 (x1.toInt + x3.toInt + 22).toNat)
        have g_394 := z_rng x1
        have g_395 := z_rng x3
        have fq_393 : fC (A 40) (A_387 40) x1.toInt ([(22, 25), (230, 469)] : List (Int × Int)) := fC.tr iv_33_1 (fC.s2 (lo := 230) (hi := 469) hE_387 hb0.1 (by decide) ⟨by omega, by omega⟩) (by decide)
        exact ih_32 A_387 _ _ x_390 _ (by omega) (by omega) fq_393 (by rw [hE_387, va_up_self, pk_un (by omega)]; exact iv_33_2) (fun q9 h1 h2 h3 => by rw [hE_387, va_up_self, pk_un (by omega)]; exact iv_33_3 q9 h1 h2 h3) FA FC WZ hT hP hS (lv_sub hl [0, 1, 2, 3, 4, 5, 6] rfl)
  have g_396 := z_rng x4
  have g_398 := z_rng x1
  have g_399 := z_rng x3
  have fq_397 : fC (A 40) (A_28 40) x1.toInt ([(22, 25), (230, 469)] : List (Int × Int)) := fC.tr fC.rf (fC.s2 (lo := 22) (hi := 25) hE_28 hb0.1 (by decide) ⟨by omega, by omega⟩) (by decide)
  exact L_39_32 _ A_28 _ _ x4 _ (Nat.lt_succ_self _) (Int.le_refl _) fq_397 (by rw [hE_28, va_up_self, pk_us]; omega) (fun q9 h1 h2 h3 => by rw [hE_28, va_up_self, pk_un (by omega)]) FA FC WZ hT hP hS (lv_sub hl [0, 1, 2, 3, 4, 5, 6] rfl)
