set_option maxHeartbeats 4000000 in
set_option maxRecDepth 100000 in
theorem c_X12_doLay (l : Launch) (D : va_G) (K : zK) (hM : mK K) (f : Nat → Int32) (A : Nat → Nat → Int32) (hT : mT f A) (a0 : Nat) (ha0 : a0 ∈ zl K) (hk0 : zk K a0 = 11) (x1 : Int32) (x2 : Int32) (x3 : Int32) (x4 : Int32) (hp0 : zRow x1.toInt) (hp1 : 0 ≤ x3.toInt ∧ x3.toInt ≤ 3) (hp2 : 0 ≤ x4.toInt ∧ x4.toInt < (A 40 (x1.toInt + x3.toInt + 22).toNat).toInt) (hp3 : rowP (A 40) x1.toInt) (hp4 : nL (A 40) x1.toInt x3.toInt (A 40 (x1.toInt + 26).toNat).toInt) (hp5 : (f 11).toInt ≤ 1950000000) (hp6 : (f 9).toInt ≤ 1950000000) : Met l yX12_doLay (zc yX12_doLay cX12_doLay 7 none) (rmd 5) (va_Pc [.ref a0, .int x1, .int x2, .int x3, .int x4] (zB D K (mV K f A))) (mQv D K (fun f' A' => mT f' A' ∧ (∀ k, k ∉ ([40, 48, 50, 53, 55] : List Nat) → A' k = A k) ∧ (∀ k, k ∉ ([9, 11, 14, 16] : List Nat) → f' k = f k) ∧ fC (A 40) (A' 40) x1.toInt ([(5, 5), (9, 9), (14, 14), (15, 18), (19, 19), (20, 20), (22, 25), (26, 26), (27, 30), (31, 34), (39, 42), (43, 43), (110, 169), (230, 469), (470, 529), (530, 589), (590, 649), (650, 709), (710, 769), (770, 829), (830, 889)] : List (Int × Int)) ∧ wz (A 40) (A' 40) x1.toInt ∧ (f 9).toInt ≤ (f' 9).toInt ∧ (f' 9).toInt ≤ (f 9).toInt + 2 ∧ (f 11).toInt ≤ (f' 11).toInt ∧ (f' 11).toInt ≤ (f 11).toInt + 13 ∧ ((f 12).toInt ≠ 0 → (f' 11).toInt = (f 11).toInt) ∧ rowN (A' 40) x1.toInt)) 0 0 (zA K) := by
  refine zin (by decide) (Nat.le_of_ble_eq_true rfl) ?_
  intro p e s m args below meth c ls Q hQ C hr hlk hP hs hl
  have C : CallFix p m c cX12_doLay 7 s args zw RX12 := C
  obtain ⟨hx, hb, hml, hown, hts⟩ := id C
  have hO := hM.1
  have hS : va_S (zA K) s.heap s.heap [] := va_S.rf
  have FA : ∀ k, k ∉ ([40, 48, 50, 53, 55] : List Nat) → A k = A k := fun _ _ => rfl
  have FF : ∀ k, k ∉ ([9, 11, 14, 16] : List Nat) → f k = f k := fun _ _ => rfl
  have FC : fC (A 40) (A 40) x1.toInt ([(5, 5), (9, 9), (14, 14), (15, 18), (19, 19), (20, 20), (22, 25), (26, 26), (27, 30), (31, 34), (39, 42), (43, 43), (110, 169), (230, 469), (470, 529), (530, 589), (590, 649), (650, 709), (710, 769), (770, 829), (830, 889)] : List (Int × Int)) := fun _ _ _ => rfl
  have WZ : wz (A 40) (A 40) x1.toInt := wz.rf
  have hl : lv_has ls 7 [(0, .ref a0), (1, .int x1), (2, .int x2), (3, .int x3), (4, .int x4)] := hl
  have hb0 := hp0.lin
  have hT0z := hT
  have tR0 := hT.row hp0
  have hSn := hS_nn (A 40) x1.toInt
  have t21 := tR0.p21
  have t26 := tR0.p26
  have t20 := tR0.p20
  have t43 := tR0.p43
  have hrs := hp3.1
  unfold rS at hrs
  have hSg := hS_ge (C := A 40) (b := x1.toInt) hp1
  have hmx := mx_le (hd (A 40) x1.toInt x3.toInt)
  have hhd : hd (A 40) x1.toInt x3.toInt = (A 40 (x1.toInt + x3.toInt + 22).toNat).toInt := rfl
  have h22 := tR0.p22 x3.toInt hp1.1 hp1.2
  have hly := dL.lt hp3.2.1 hp1 hp4 tR0.p31
  refine lv_aload_n hx hb dX12_doLay_0 rfl (lv_at hl 0 rfl) ?_
  refine mg_0 C hs hP ha0 hk0 wf_X12_8 dX12_doLay_1 ?_
  have hf_1 := hO.r (j := 0) ha0 hk0 (rfl : zX 11 0 = some (40, 47730))
  refine lv_iload_n hx hb dX12_doLay_4 rfl (lv_at hl 1 rfl) ?_
  refine lv_sipush (v := 230) hx hb dX12_doLay_5 (by decide) ?_
  refine lv_iadd hx hb dX12_doLay_8 ?_
  refine lv_topi (fun x_2 ex_2 => ?_)
  refine lv_bipush (v := 60) hx hb dX12_doLay_9 (by decide) ?_
  refine lv_iload_n hx hb dX12_doLay_11 rfl (lv_at hl 3 rfl) ?_
  refine lv_imul hx hb dX12_doLay_12 ?_
  refine lv_topi (fun x_3 ex_3 => ?_)
  refine lv_iadd hx hb dX12_doLay_13 ?_
  refine lv_topi (fun x_4 ex_4 => ?_)
  refine lv_iload hx hb dX12_doLay_14 (lv_at hl 4 rfl) ?_
  refine lv_iadd hx hb dX12_doLay_16 ?_
  refine lv_topi (fun x_5 ex_5 => ?_)
  have hi_hr_6 : zEq x_5.toInt (x1.toInt + 60 * x3.toInt + x4.toInt + 230) := by
    have g_7 := z_rng x1
    obtain ⟨f_2, l_2, u_2⟩ := z_add ex_2 rfl ti_230
    try replace f_2 : x_2.toInt = x1.toInt + 230 := by omega
    clear l_2 u_2
    have g_8 := z_rng x3
    obtain ⟨f_3, l_3, u_3⟩ := z_mul ex_3 ti_60 rfl
    try replace f_3 : x_3.toInt = 60 * x3.toInt := by omega
    clear l_3 u_3
    obtain ⟨f_4, l_4, u_4⟩ := z_add ex_4 rfl rfl
    try replace f_4 : x_4.toInt = x_2.toInt + x_3.toInt := by omega
    clear l_4 u_4
    have g_9 := z_rng x4
    obtain ⟨f_5, l_5, u_5⟩ := z_add ex_5 rfl rfl
    try replace f_5 : x_5.toInt = x_4.toInt + x4.toInt := by omega
    clear l_5 u_5
    show x_5.toInt = (x1.toInt + 60 * x3.toInt + x4.toInt + 230)
    omega
  have hl_hr_6 : 230 ≤ 60 * x3.toInt + x4.toInt + 230 ∧ 60 * x3.toInt + x4.toInt + 230 ≤ 469 := by
    have g_10 := z_rng x1
    have g_11 := z_rng x3
    have g_12 := z_rng x4
    omega
  have hid_hr_6 : (x1.toInt + 60 * x3.toInt + x4.toInt + 230) = x1.toInt + (60 * x3.toInt + x4.toInt + 230) := by simp only [Int.add_assoc, Int.add_sub_assoc]
  have hr_6 := z_cell (lo := 170) (hi := 469) hp0 hi_hr_6 hid_hr_6 hl_hr_6 (by decide)
  replace hid_hr_6 : zEq (x1.toInt + 60 * x3.toInt + x4.toInt + 230) (x1.toInt + (60 * x3.toInt + x4.toInt + 230)) := hid_hr_6
  have hin_13 : vp_in x_5 (zn K (zr K a0 0)) := vp_in_iff.mpr (by rw [(hf_1.2.2 (by decide))]; exact hr_6.in)
  refine mld_40 C hs hP hf_1.1 hf_1.2.1 hin_13 dX12_doLay_17 ?_
  have ep_14 : x_5.toNatClampNeg = (x1.toInt + 60 * x3.toInt + x4.toInt + 230).toNat := z_posE hi_hr_6
  rw [ep_14]
  have tv_15 := rv_170 hT hr_6
  rw [ep_14] at tv_15
  clear ep_14
  refine lv_istore (lv' := [(5, .int (A 40 (x1.toInt + 60 * x3.toInt + x4.toInt + 230).toNat)), (0, .ref a0), (1, .int x1), (2, .int x2), (3, .int x3), (4, .int x4)]) hx hb dX12_doLay_18 hl (by decide) rfl (fun ls hl => ?_)
  refine lv_aload_n hx hb dX12_doLay_20 rfl (lv_at hl 1 rfl) ?_
  refine mg_0 C hs hP ha0 hk0 wf_X12_8 dX12_doLay_21 ?_
  refine lv_iload_n hx hb dX12_doLay_24 rfl (lv_at hl 2 rfl) ?_
  refine lv_bipush (v := 22) hx hb dX12_doLay_25 (by decide) ?_
  refine lv_iadd hx hb dX12_doLay_27 ?_
  refine lv_topi (fun x_16 ex_16 => ?_)
  refine lv_iload_n hx hb dX12_doLay_28 rfl (lv_at hl 4 rfl) ?_
  refine lv_iadd hx hb dX12_doLay_29 ?_
  refine lv_topi (fun x_17 ex_17 => ?_)
  refine lv_dup2_11 hx hb dX12_doLay_30 rfl rfl ?_
  have hi_hr_18 : zEq x_17.toInt (x1.toInt + x3.toInt + 22) := by
    have g_19 := z_rng x1
    obtain ⟨f_16, l_16, u_16⟩ := z_add ex_16 rfl ti_22
    try replace f_16 : x_16.toInt = x1.toInt + 22 := by omega
    clear l_16 u_16
    have g_20 := z_rng x3
    obtain ⟨f_17, l_17, u_17⟩ := z_add ex_17 rfl rfl
    try replace f_17 : x_17.toInt = x_16.toInt + x3.toInt := by omega
    clear l_17 u_17
    show x_17.toInt = (x1.toInt + x3.toInt + 22)
    omega
  have hl_hr_18 : 22 ≤ x3.toInt + 22 ∧ x3.toInt + 22 ≤ 25 := by
    have g_21 := z_rng x1
    have g_22 := z_rng x3
    omega
  have hid_hr_18 : (x1.toInt + x3.toInt + 22) = x1.toInt + (x3.toInt + 22) := by simp only [Int.add_assoc, Int.add_sub_assoc]
  have hr_18 := z_cell (lo := 22) (hi := 25) hp0 hi_hr_18 hid_hr_18 hl_hr_18 (by decide)
  replace hid_hr_18 : zEq (x1.toInt + x3.toInt + 22) (x1.toInt + (x3.toInt + 22)) := hid_hr_18
  have hin_23 : vp_in x_17 (zn K (zr K a0 0)) := vp_in_iff.mpr (by rw [(hf_1.2.2 (by decide))]; exact hr_18.in)
  refine mld_40 C hs hP hf_1.1 hf_1.2.1 hin_23 dX12_doLay_31 ?_
  have ep_24 : x_17.toNatClampNeg = (x1.toInt + x3.toInt + 22).toNat := z_posE hi_hr_18
  rw [ep_24]
  have tv_25 := rv_22 hT hr_18
  rw [ep_24] at tv_25
  clear ep_24
  refine lv_iconst (v := 1) hx hb dX12_doLay_32 (by decide) ?_
  refine lv_isub hx hb dX12_doLay_33 ?_
  refine lv_topi (fun x_26 ex_26 => ?_)
  have hin_27 : vp_in x_17 (zn K (zr K a0 0)) := vp_in_iff.mpr (by rw [(hf_1.2.2 (by decide))]; exact hr_18.in)
  have g_29 := z_rng (A 40 (x1.toInt + x3.toInt + 22).toNat)
  obtain ⟨f_26, l_26, u_26⟩ := z_sub ex_26 rfl ti_1
  try replace f_26 : x_26.toInt = (A 40 (x1.toInt + x3.toInt + 22).toNat).toInt - 1 := by omega
  clear l_26 u_26
  refine mst_40 C hM hs hP hS hf_1.1 hT hf_1.2.1 hin_27 (tp_22 hr_18 (show -1 ≤ x_26.toInt ∧ x_26.toInt ≤ 60 from by omega)) dX12_doLay_34 (fun A_28 H locs hE_28 hT hP hS => ?_)
  have ep_30 : x_17.toNatClampNeg = (x1.toInt + x3.toInt + 22).toNat := z_posE hi_hr_18
  rw [ep_30] at hE_28
  clear ep_30
  have FA := frA FA (frAu hE_28) (by decide)
  have FC := fC.tr FC (fC.st (b := x1.toInt) (lo := 22) (hi := 25) hE_28 hb0.1 (by decide) hid_hr_18 hl_hr_18) (by decide)
  have WZ := wz.st WZ hE_28 (Or.inr ⟨by omega, by omega, Or.inl (by omega)⟩)
  refine lv_iload hx hb dX12_doLay_35 (lv_at hl 5 rfl) ?_
  refine lv_istore (lv' := [(6, .int x4), (5, .int (A 40 (x1.toInt + 60 * x3.toInt + x4.toInt + 230).toNat)), (0, .ref a0), (1, .int x1), (2, .int x2), (3, .int x3), (4, .int x4)]) hx hb dX12_doLay_37 hl (by decide) rfl (fun ls hl => ?_)
  have L_39_32 : ∀ (n_32 : Nat) (A_33 : Nat → Nat → Int32) (H : Heap) (locs : List Loc) (y_31 : Int32) (ls : Array Slot), (2147483648 - y_31.toInt).toNat < n_32 → x4.toInt ≤ y_31.toInt → fC (A 40) (A_33 40) x1.toInt ([(22, 25), (230, 469)] : List (Int × Int)) → (A_33 40 (x1.toInt + x3.toInt + 22).toNat).toInt = (A 40 (x1.toInt + x3.toInt + 22).toNat).toInt - 1 → (∀ q : Int, 0 ≤ q → q ≤ 3 → q ≠ x3.toInt → A_33 40 (x1.toInt + q + 22).toNat = A 40 (x1.toInt + q + 22).toNat) → (∀ k, k ∉ ([40, 48, 50, 53, 55] : List Nat) → A_33 k = A k) → fC (A 40) (A_33 40) x1.toInt ([(5, 5), (9, 9), (14, 14), (15, 18), (19, 19), (20, 20), (22, 25), (26, 26), (27, 30), (31, 34), (39, 42), (43, 43), (110, 169), (230, 469), (470, 529), (530, 589), (590, 649), (650, 709), (710, 769), (770, 829), (830, 889)] : List (Int × Int)) → wz (A 40) (A_33 40) x1.toInt → mT f A_33 → va_P D vwCl (zW K (mV K f A_33)) H → va_S (zA K) s.heap H locs → lv_has ls 7 [(6, .int y_31), (5, .int (A 40 (x1.toInt + 60 * x3.toInt + x4.toInt + 230).toNat)), (0, .ref a0), (1, .int x1), (2, .int x2), (3, .int x3), (4, .int x4)] → W p l e (rmd 5) s m args below meth c H locs 0 0 Q (F0 m 39 ls []) := by
    intro n_32
    induction n_32 with
    | zero => intro A_33 H locs y_31 ls hm_32; exact absurd hm_32 (Nat.not_lt_zero _)
    | succ n_32 ih_32 =>
      intro A_33 H locs y_31 ls hm_32 iv_33_0 iv_33_1 iv_33_2 iv_33_3 FA_33 FC_33 WZ_33 hT hP hS hl
      have FA := FA_33
      have FC := FC_33
      have WZ := WZ_33
      try clear ep_30
      try clear f_26
      try clear g_29
      try clear hin_27
      try clear ep_24
      try clear hin_23
      try clear hr_18
      try clear hid_hr_18
      try clear g_22
      try clear g_21
      try clear hl_hr_18
      try clear f_17
      try clear g_20
      try clear f_16
      try clear g_19
      try clear hi_hr_18
      try clear ep_14
      try clear hin_13
      try clear hr_6
      try clear hid_hr_6
      try clear g_12
      try clear g_11
      try clear g_10
      try clear hl_hr_6
      try clear f_5
      try clear g_9
      try clear f_4
      try clear f_3
      try clear g_8
      try clear f_2
      try clear g_7
      try clear hi_hr_6
      have hmz := zHid.mk hm_32
      clear hm_32
      have e20q := iv_33_1.ar hb0.1 (lo := 20) (hi := 20) (by decide) (x1.toInt + 20) (by decide) (by omega) (by omega)
      have e20i := congrArg Int32.toInt e20q
      have e21q := iv_33_1.ar hb0.1 (lo := 21) (hi := 21) (by decide) (x1.toInt + 21) (by decide) (by omega) (by omega)
      have e21i := congrArg Int32.toInt e21q
      have e26q := iv_33_1.ar hb0.1 (lo := 26) (hi := 26) (by decide) (x1.toInt + 26) (by decide) (by omega) (by omega)
      have e26i := congrArg Int32.toInt e26q
      have e43q := iv_33_1.ar hb0.1 (lo := 43) (hi := 43) (by decide) (x1.toInt + 43) (by decide) (by omega) (by omega)
      have e43i := congrArg Int32.toInt e43q
      refine lv_iload hx hb dX12_doLay_39 (lv_at hl 0 rfl) ?_
      refine lv_aload_n hx hb dX12_doLay_41 rfl (lv_at hl 2 rfl) ?_
      refine mg_0 C hs hP ha0 hk0 wf_X12_8 dX12_doLay_42 ?_
      refine lv_iload_n hx hb dX12_doLay_45 rfl (lv_at hl 3 rfl) ?_
      refine lv_bipush (v := 22) hx hb dX12_doLay_46 (by decide) ?_
      refine lv_iadd hx hb dX12_doLay_48 ?_
      refine lv_topi (fun x_35 ex_35 => ?_)
      refine lv_iload_n hx hb dX12_doLay_49 rfl (lv_at hl 5 rfl) ?_
      refine lv_iadd hx hb dX12_doLay_50 ?_
      refine lv_topi (fun x_36 ex_36 => ?_)
      have hi_hr_37 : zEq x_36.toInt (x1.toInt + x3.toInt + 22) := by
        have g_38 := z_rng x1
        obtain ⟨f_35, l_35, u_35⟩ := z_add ex_35 rfl ti_22
        try replace f_35 : x_35.toInt = x1.toInt + 22 := by omega
        clear l_35 u_35
        have g_39 := z_rng x3
        obtain ⟨f_36, l_36, u_36⟩ := z_add ex_36 rfl rfl
        try replace f_36 : x_36.toInt = x_35.toInt + x3.toInt := by omega
        clear l_36 u_36
        show x_36.toInt = (x1.toInt + x3.toInt + 22)
        omega
      have hl_hr_37 : 22 ≤ x3.toInt + 22 ∧ x3.toInt + 22 ≤ 25 := by
        have g_40 := z_rng x1
        have g_41 := z_rng x3
        omega
      have hid_hr_37 : (x1.toInt + x3.toInt + 22) = x1.toInt + (x3.toInt + 22) := by simp only [Int.add_assoc, Int.add_sub_assoc]
      have hr_37 := z_cell (lo := 22) (hi := 25) hp0 hi_hr_37 hid_hr_37 hl_hr_37 (by decide)
      replace hid_hr_37 : zEq (x1.toInt + x3.toInt + 22) (x1.toInt + (x3.toInt + 22)) := hid_hr_37
      have hin_42 : vp_in x_36 (zn K (zr K a0 0)) := vp_in_iff.mpr (by rw [(hf_1.2.2 (by decide))]; exact hr_37.in)
      refine mld_40 C hs hP hf_1.1 hf_1.2.1 hin_42 dX12_doLay_51 ?_
      have ep_43 : x_36.toNatClampNeg = (x1.toInt + x3.toInt + 22).toNat := z_posE hi_hr_37
      rw [ep_43]
      have tv_44 := rv_22 hT hr_37
      rw [ep_43] at tv_44
      clear ep_43
      refine bi_ge (tgt := 99) hx hb rfl rfl dX12_doLay_52 (by decide) (fun c_45 => ?_) (fun c_45 => ?_)
      · skip
        refine lv_aload_n hx hb dX12_doLay_99 rfl (lv_at hl 2 rfl) ?_
        refine mg_17 C hs hP ha0 hk0 wf_X12_198 dX12_doLay_100 ?_
        refine lv_iconst (v := 1) hx hb dX12_doLay_103 (by decide) ?_
        have J_208_152 := j_X12_doLay_208 (e := e) l D K hM f A hT0z a0 ha0 hk0 x1 x2 x3 x4 hp0 hp1 hp2 hp3 hp4 hp5 hp6 hQ C hr hlk hs
        refine bi_ne (tgt := 208) hx hb rfl ti_1 dX12_doLay_104 (by decide) (fun c_81 => ?_) (fun c_81 => ?_)
        · skip
          exact J_208_152 A_33 _ _ y_31 _ (fC.tr fC.rf iv_33_1 (by decide)) iv_33_2 iv_33_3 (by omega) (by omega) FA FC WZ hT hP hS (lv_sub hl [2, 3, 4, 5, 6, 1, 0] rfl)
        · skip
          refine lv_aload_n hx hb dX12_doLay_107 rfl (lv_at hl 2 rfl) ?_
          refine mg_0 C hs hP ha0 hk0 wf_X12_8 dX12_doLay_108 ?_
          refine lv_iload_n hx hb dX12_doLay_111 rfl (lv_at hl 3 rfl) ?_
          refine lv_bipush (v := 43) hx hb dX12_doLay_112 (by decide) ?_
          refine lv_iadd hx hb dX12_doLay_114 ?_
          refine lv_topi (fun x_252 ex_252 => ?_)
          have hi_hr_253 : zEq x_252.toInt (x1.toInt + 43) := by
            have g_254 := z_rng x1
            obtain ⟨f_252, l_252, u_252⟩ := z_add ex_252 rfl ti_43
            try replace f_252 : x_252.toInt = x1.toInt + 43 := by omega
            clear l_252 u_252
            show x_252.toInt = (x1.toInt + 43)
            omega
          have hl_hr_253 : (43 : Int) ≤ 43 ∧ 43 ≤ (43 : Int) := by decide
          have hid_hr_253 : (x1.toInt + 43) = x1.toInt + (43) := by simp only [Int.add_assoc, Int.add_sub_assoc]
          have hr_253 := z_cell (lo := 43) (hi := 43) hp0 hi_hr_253 hid_hr_253 hl_hr_253 (by decide)
          replace hid_hr_253 : zEq (x1.toInt + 43) (x1.toInt + (43)) := hid_hr_253
          have hin_255 : vp_in x_252 (zn K (zr K a0 0)) := vp_in_iff.mpr (by rw [(hf_1.2.2 (by decide))]; exact hr_253.in)
          refine mld_40 C hs hP hf_1.1 hf_1.2.1 hin_255 dX12_doLay_115 ?_
          have ep_256 : x_252.toNatClampNeg = (x1.toInt + 43).toNat := z_posE hi_hr_253
          rw [ep_256]
          have tv_257 := rv_43 hT hr_253
          rw [ep_256] at tv_257
          clear ep_256
          refine lv_istore (lv' := [(6, .int (A_33 40 (x1.toInt + 43).toNat)), (5, .int (A 40 (x1.toInt + 60 * x3.toInt + x4.toInt + 230).toNat)), (0, .ref a0), (1, .int x1), (2, .int x2), (3, .int x3), (4, .int x4)]) hx hb dX12_doLay_116 hl (by decide) rfl (fun ls hl => ?_)
          refine lv_aload_n hx hb dX12_doLay_118 rfl (lv_at hl 2 rfl) ?_
          refine mg_0 C hs hP ha0 hk0 wf_X12_8 dX12_doLay_119 ?_
          refine lv_iload_n hx hb dX12_doLay_122 rfl (lv_at hl 3 rfl) ?_
          refine lv_sipush (v := 650) hx hb dX12_doLay_123 (by decide) ?_
          refine lv_iadd hx hb dX12_doLay_126 ?_
          refine lv_topi (fun x_258 ex_258 => ?_)
          refine lv_iload hx hb dX12_doLay_127 (lv_at hl 0 rfl) ?_
          refine lv_iadd hx hb dX12_doLay_129 ?_
          refine lv_topi (fun x_259 ex_259 => ?_)
          refine lv_iload_n hx hb dX12_doLay_130 rfl (lv_at hl 5 rfl) ?_
          have hi_hr_260 : zEq x_259.toInt (x1.toInt + (A_33 40 (x1.toInt + 43).toNat).toInt + 650) := by
            have g_261 := z_rng x1
            obtain ⟨f_258, l_258, u_258⟩ := z_add ex_258 rfl ti_650
            try replace f_258 : x_258.toInt = x1.toInt + 650 := by omega
            clear l_258 u_258
            have g_262 := z_rng (A_33 40 (x1.toInt + 43).toNat)
            obtain ⟨f_259, l_259, u_259⟩ := z_add ex_259 rfl rfl
            try replace f_259 : x_259.toInt = x_258.toInt + (A_33 40 (x1.toInt + 43).toNat).toInt := by omega
            clear l_259 u_259
            show x_259.toInt = (x1.toInt + (A_33 40 (x1.toInt + 43).toNat).toInt + 650)
            omega
          have hl_hr_260 : 650 ≤ (A_33 40 (x1.toInt + 43).toNat).toInt + 650 ∧ (A_33 40 (x1.toInt + 43).toNat).toInt + 650 ≤ 709 := by
            have g_263 := z_rng x1
            have g_264 := z_rng (A_33 40 (x1.toInt + 43).toNat)
            omega
          have hid_hr_260 : (x1.toInt + (A_33 40 (x1.toInt + 43).toNat).toInt + 650) = x1.toInt + ((A_33 40 (x1.toInt + 43).toNat).toInt + 650) := by simp only [Int.add_assoc, Int.add_sub_assoc]
          have hr_260 := z_cell (lo := 470) (hi := 769) hp0 hi_hr_260 hid_hr_260 hl_hr_260 (by decide)
          replace hid_hr_260 : zEq (x1.toInt + (A_33 40 (x1.toInt + 43).toNat).toInt + 650) (x1.toInt + ((A_33 40 (x1.toInt + 43).toNat).toInt + 650)) := hid_hr_260
          have hin_265 : vp_in x_259 (zn K (zr K a0 0)) := vp_in_iff.mpr (by rw [(hf_1.2.2 (by decide))]; exact hr_260.in)
          refine mst_40 C hM hs hP hS hf_1.1 hT hf_1.2.1 hin_265 (tp_470 hr_260) dX12_doLay_131 (fun A_266 H locs hE_266 hT hP hS => ?_)
          have ep_267 : x_259.toNatClampNeg = (x1.toInt + (A_33 40 (x1.toInt + 43).toNat).toInt + 650).toNat := z_posE hi_hr_260
          rw [ep_267] at hE_266
          clear ep_267
          have FA := frA FA (frAu hE_266) (by decide)
          have FC := fC.tr FC (fC.st (b := x1.toInt) (lo := 650) (hi := 709) hE_266 hb0.1 (by decide) hid_hr_260 hl_hr_260) (by decide)
          have WZ := wz.st WZ hE_266 (Or.inr ⟨by omega, by omega, Or.inr (by omega)⟩)
          refine lv_aload_n hx hb dX12_doLay_132 rfl (lv_at hl 2 rfl) ?_
          refine mg_0 C hs hP ha0 hk0 wf_X12_8 dX12_doLay_133 ?_
          refine lv_iload_n hx hb dX12_doLay_136 rfl (lv_at hl 3 rfl) ?_
          refine lv_sipush (v := 710) hx hb dX12_doLay_137 (by decide) ?_
          refine lv_iadd hx hb dX12_doLay_140 ?_
          refine lv_topi (fun x_268 ex_268 => ?_)
          refine lv_iload hx hb dX12_doLay_141 (lv_at hl 0 rfl) ?_
          refine lv_iadd hx hb dX12_doLay_143 ?_
          refine lv_topi (fun x_269 ex_269 => ?_)
          refine lv_aload_n hx hb dX12_doLay_144 rfl (lv_at hl 2 rfl) ?_
          refine lv_iload_n hx hb dX12_doLay_145 rfl (lv_at hl 3 rfl) ?_
          refine lv_aload_n hx hb dX12_doLay_146 rfl (lv_at hl 2 rfl) ?_
          refine mg_0 C hs hP ha0 hk0 wf_X12_8 dX12_doLay_147 ?_
          refine lv_iload_n hx hb dX12_doLay_150 rfl (lv_at hl 3 rfl) ?_
          refine lv_bipush (v := 27) hx hb dX12_doLay_151 (by decide) ?_
          refine lv_iadd hx hb dX12_doLay_153 ?_
          refine lv_topi (fun x_270 ex_270 => ?_)
          have hi_hr_271 : zEq x_270.toInt (x1.toInt + 27) := by
            have g_272 := z_rng x1
            obtain ⟨f_270, l_270, u_270⟩ := z_add ex_270 rfl ti_27
            try replace f_270 : x_270.toInt = x1.toInt + 27 := by omega
            clear l_270 u_270
            show x_270.toInt = (x1.toInt + 27)
            omega
          have hl_hr_271 : (27 : Int) ≤ 27 ∧ 27 ≤ (27 : Int) := by decide
          have hid_hr_271 : (x1.toInt + 27) = x1.toInt + (27) := by simp only [Int.add_assoc, Int.add_sub_assoc]
          have hr_271 := z_cell (lo := 27) (hi := 30) hp0 hi_hr_271 hid_hr_271 hl_hr_271 (by decide)
          replace hid_hr_271 : zEq (x1.toInt + 27) (x1.toInt + (27)) := hid_hr_271
          have hin_273 : vp_in x_270 (zn K (zr K a0 0)) := vp_in_iff.mpr (by rw [(hf_1.2.2 (by decide))]; exact hr_271.in)
          refine mld_40 C hs hP hf_1.1 hf_1.2.1 hin_273 dX12_doLay_154 ?_
          have ep_274 : x_270.toNatClampNeg = (x1.toInt + 27).toNat := z_posE hi_hr_271
          rw [ep_274]
          have g_276 := z_rng x1
          obtain ⟨f_270, l_270, u_270⟩ := z_add ex_270 rfl ti_27
          try replace f_270 : x_270.toInt = x1.toInt + 27 := by omega
          clear l_270 u_270
          obtain ⟨f_258, l_258, u_258⟩ := z_add ex_258 rfl ti_650
          try replace f_258 : x_258.toInt = x1.toInt + 650 := by omega
          clear l_258 u_258
          have g_277 := z_rng (A_33 40 (x1.toInt + 43).toNat)
          obtain ⟨f_259, l_259, u_259⟩ := z_add ex_259 rfl rfl
          try replace f_259 : x_259.toInt = x_258.toInt + (A_33 40 (x1.toInt + 43).toNat).toInt := by omega
          clear l_259 u_259
          have hn_275 : (x1.toInt + 27).toNat ≠ (x1.toInt + (A_33 40 (x1.toInt + 43).toNat).toInt + 650).toNat := zNe (by omega) (by omega) (by omega)
          have ev_278 : A_266 40 (x1.toInt + 27).toNat = A_33 40 (x1.toInt + 27).toNat := by rw [hE_266, va_up_self, pk_un hn_275]
          clear hn_275
          have tv_279 := rv_27 hT hr_271
          rw [ep_274] at tv_279
          rw [ev_278] at tv_279
          rw [ev_278]
          clear ep_274
          have g_280 := z_rng (A_33 40 (x1.toInt + 27).toNat)
          have hq_281 : 0 ≤ (A_33 40 (x1.toInt + 27).toNat).toInt ∧ (A_33 40 (x1.toInt + 27).toNat).toInt ≤ 59 := by (first | assumption | omega | (intros; omega))
          refine zcS (zrV (As := [.int x1, .int (A_33 40 (x1.toInt + 27).toNat)]) (b := a0) (rest := [.int x_269, .ref (zr K a0 0)]) C hs hP hS (c_X12_colour l D K hM f A_266 hT a0 ha0 hk0 x1 (A_33 40 (x1.toInt + 27).toNat) hp0 hq_281) m_X12_colour wm_X12_120 (zrecv hs hP ha0 (zF_11 hk0) rfl) ⟨by decide, by decide⟩ hl.1 (Nat.le_of_ble_eq_true rfl) dX12_doLay_155) (fun x_282 p_282 => ?_)
          have pp_282 : x_282 = mcol (A_266 40) x1 (A_33 40 (x1.toInt + 27).toNat) := p_282
          have pq_282 := congrArg Int32.toInt pp_282
          have hi_hr_283 : zEq x_269.toInt (x1.toInt + (A_33 40 (x1.toInt + 43).toNat).toInt + 710) := by
            obtain ⟨f_268, l_268, u_268⟩ := z_add ex_268 rfl ti_710
            try replace f_268 : x_268.toInt = x1.toInt + 710 := by omega
            clear l_268 u_268
            obtain ⟨f_269, l_269, u_269⟩ := z_add ex_269 rfl rfl
            try replace f_269 : x_269.toInt = x_268.toInt + (A_33 40 (x1.toInt + 43).toNat).toInt := by omega
            clear l_269 u_269
            show x_269.toInt = (x1.toInt + (A_33 40 (x1.toInt + 43).toNat).toInt + 710)
            omega
          have hl_hr_283 : 710 ≤ (A_33 40 (x1.toInt + 43).toNat).toInt + 710 ∧ (A_33 40 (x1.toInt + 43).toNat).toInt + 710 ≤ 769 := by
            omega
          have hid_hr_283 : (x1.toInt + (A_33 40 (x1.toInt + 43).toNat).toInt + 710) = x1.toInt + ((A_33 40 (x1.toInt + 43).toNat).toInt + 710) := by simp only [Int.add_assoc, Int.add_sub_assoc]
          have hr_283 := z_cell (lo := 470) (hi := 769) hp0 hi_hr_283 hid_hr_283 hl_hr_283 (by decide)
          replace hid_hr_283 : zEq (x1.toInt + (A_33 40 (x1.toInt + 43).toNat).toInt + 710) (x1.toInt + ((A_33 40 (x1.toInt + 43).toNat).toInt + 710)) := hid_hr_283
          have hin_284 : vp_in x_269 (zn K (zr K a0 0)) := vp_in_iff.mpr (by rw [(hf_1.2.2 (by decide))]; exact hr_283.in)
          refine mst_40 C hM hs hP hS hf_1.1 hT hf_1.2.1 hin_284 (tp_470 hr_283) dX12_doLay_158 (fun A_285 H locs hE_285 hT hP hS => ?_)
          have ep_286 : x_269.toNatClampNeg = (x1.toInt + (A_33 40 (x1.toInt + 43).toNat).toInt + 710).toNat := z_posE hi_hr_283
          rw [ep_286] at hE_285
          clear ep_286
          have FA := frA FA (frAu hE_285) (by decide)
          have FC := fC.tr FC (fC.st (b := x1.toInt) (lo := 710) (hi := 769) hE_285 hb0.1 (by decide) hid_hr_283 hl_hr_283) (by decide)
          have WZ := wz.st WZ hE_285 (Or.inr ⟨by omega, by omega, Or.inr (by omega)⟩)
          refine lv_aload_n hx hb dX12_doLay_159 rfl (lv_at hl 2 rfl) ?_
          refine mg_0 C hs hP ha0 hk0 wf_X12_8 dX12_doLay_160 ?_
          refine lv_iload_n hx hb dX12_doLay_163 rfl (lv_at hl 3 rfl) ?_
          refine lv_sipush (v := 770) hx hb dX12_doLay_164 (by decide) ?_
          refine lv_iadd hx hb dX12_doLay_167 ?_
          refine lv_topi (fun x_287 ex_287 => ?_)
          refine lv_iload hx hb dX12_doLay_168 (lv_at hl 0 rfl) ?_
          refine lv_iadd hx hb dX12_doLay_170 ?_
          refine lv_topi (fun x_288 ex_288 => ?_)
          refine lv_aload_n hx hb dX12_doLay_171 rfl (lv_at hl 2 rfl) ?_
          refine mg_0 C hs hP ha0 hk0 wf_X12_8 dX12_doLay_172 ?_
          refine lv_iload_n hx hb dX12_doLay_175 rfl (lv_at hl 3 rfl) ?_
          refine lv_bipush (v := 20) hx hb dX12_doLay_176 (by decide) ?_
          refine lv_iadd hx hb dX12_doLay_178 ?_
          refine lv_topi (fun x_289 ex_289 => ?_)
          have hi_hr_290 : zEq x_289.toInt (x1.toInt + 20) := by
            obtain ⟨f_289, l_289, u_289⟩ := z_add ex_289 rfl ti_20
            try replace f_289 : x_289.toInt = x1.toInt + 20 := by omega
            clear l_289 u_289
            show x_289.toInt = (x1.toInt + 20)
            omega
          have hl_hr_290 : (20 : Int) ≤ 20 ∧ 20 ≤ (20 : Int) := by decide
          have hid_hr_290 : (x1.toInt + 20) = x1.toInt + (20) := by simp only [Int.add_assoc, Int.add_sub_assoc]
          have hr_290 := z_cell (lo := 20) (hi := 21) hp0 hi_hr_290 hid_hr_290 hl_hr_290 (by decide)
          replace hid_hr_290 : zEq (x1.toInt + 20) (x1.toInt + (20)) := hid_hr_290
          have hin_291 : vp_in x_289 (zn K (zr K a0 0)) := vp_in_iff.mpr (by rw [(hf_1.2.2 (by decide))]; exact hr_290.in)
          refine mld_40 C hs hP hf_1.1 hf_1.2.1 hin_291 dX12_doLay_179 ?_
          have ep_292 : x_289.toNatClampNeg = (x1.toInt + 20).toNat := z_posE hi_hr_290
          rw [ep_292]
          obtain ⟨f_289, l_289, u_289⟩ := z_add ex_289 rfl ti_20
          try replace f_289 : x_289.toInt = x1.toInt + 20 := by omega
          clear l_289 u_289
          obtain ⟨f_268, l_268, u_268⟩ := z_add ex_268 rfl ti_710
          try replace f_268 : x_268.toInt = x1.toInt + 710 := by omega
          clear l_268 u_268
          obtain ⟨f_269, l_269, u_269⟩ := z_add ex_269 rfl rfl
          try replace f_269 : x_269.toInt = x_268.toInt + (A_33 40 (x1.toInt + 43).toNat).toInt := by omega
          clear l_269 u_269
          have hn_293 : (x1.toInt + 20).toNat ≠ (x1.toInt + (A_33 40 (x1.toInt + 43).toNat).toInt + 710).toNat := zNe (by omega) (by omega) (by omega)
          have hn_294 : (x1.toInt + 20).toNat ≠ (x1.toInt + (A_33 40 (x1.toInt + 43).toNat).toInt + 650).toNat := zNe (by omega) (by omega) (by omega)
          have ev_295 : A_285 40 (x1.toInt + 20).toNat = A_33 40 (x1.toInt + 20).toNat := by rw [hE_285, va_up_self, pk_un hn_293, hE_266, va_up_self, pk_un hn_294]
          clear hn_293 hn_294
          have tv_296 := rv_20 hT hr_290
          rw [ep_292] at tv_296
          rw [ev_295] at tv_296
          rw [ev_295]
          clear ep_292
          have hi_hr_297 : zEq x_288.toInt (x1.toInt + (A_33 40 (x1.toInt + 43).toNat).toInt + 770) := by
            obtain ⟨f_287, l_287, u_287⟩ := z_add ex_287 rfl ti_770
            try replace f_287 : x_287.toInt = x1.toInt + 770 := by omega
            clear l_287 u_287
            obtain ⟨f_288, l_288, u_288⟩ := z_add ex_288 rfl rfl
            try replace f_288 : x_288.toInt = x_287.toInt + (A_33 40 (x1.toInt + 43).toNat).toInt := by omega
            clear l_288 u_288
            show x_288.toInt = (x1.toInt + (A_33 40 (x1.toInt + 43).toNat).toInt + 770)
            omega
          have hl_hr_297 : 770 ≤ (A_33 40 (x1.toInt + 43).toNat).toInt + 770 ∧ (A_33 40 (x1.toInt + 43).toNat).toInt + 770 ≤ 829 := by
            omega
          have hid_hr_297 : (x1.toInt + (A_33 40 (x1.toInt + 43).toNat).toInt + 770) = x1.toInt + ((A_33 40 (x1.toInt + 43).toNat).toInt + 770) := by simp only [Int.add_assoc, Int.add_sub_assoc]
          have hr_297 := z_cell (lo := 770) (hi := 829) hp0 hi_hr_297 hid_hr_297 hl_hr_297 (by decide)
          replace hid_hr_297 : zEq (x1.toInt + (A_33 40 (x1.toInt + 43).toNat).toInt + 770) (x1.toInt + ((A_33 40 (x1.toInt + 43).toNat).toInt + 770)) := hid_hr_297
          have hin_298 : vp_in x_288 (zn K (zr K a0 0)) := vp_in_iff.mpr (by rw [(hf_1.2.2 (by decide))]; exact hr_297.in)
          have g_300 := z_rng (A_33 40 (x1.toInt + 20).toNat)
          refine mst_40 C hM hs hP hS hf_1.1 hT hf_1.2.1 hin_298 (tp_770 hr_297 (show 0 ≤ (A_33 40 (x1.toInt + 20).toNat).toInt ∧ (A_33 40 (x1.toInt + 20).toNat).toInt ≤ 59 from by omega)) dX12_doLay_180 (fun A_299 H locs hE_299 hT hP hS => ?_)
          have ep_301 : x_288.toNatClampNeg = (x1.toInt + (A_33 40 (x1.toInt + 43).toNat).toInt + 770).toNat := z_posE hi_hr_297
          rw [ep_301] at hE_299
          clear ep_301
          have FA := frA FA (frAu hE_299) (by decide)
          have FC := fC.tr FC (fC.st (b := x1.toInt) (lo := 770) (hi := 829) hE_299 hb0.1 (by decide) hid_hr_297 hl_hr_297) (by decide)
          have WZ := wz.st WZ hE_299 (Or.inr ⟨by omega, by omega, Or.inr (by omega)⟩)
          refine lv_aload_n hx hb dX12_doLay_181 rfl (lv_at hl 2 rfl) ?_
          refine mg_0 C hs hP ha0 hk0 wf_X12_8 dX12_doLay_182 ?_
          refine lv_iload_n hx hb dX12_doLay_185 rfl (lv_at hl 3 rfl) ?_
          refine lv_sipush (v := 830) hx hb dX12_doLay_186 (by decide) ?_
          refine lv_iadd hx hb dX12_doLay_189 ?_
          refine lv_topi (fun x_302 ex_302 => ?_)
          refine lv_iload hx hb dX12_doLay_190 (lv_at hl 0 rfl) ?_
          refine lv_iadd hx hb dX12_doLay_192 ?_
          refine lv_topi (fun x_303 ex_303 => ?_)
          refine lv_iconst (v := 0) hx hb dX12_doLay_193 (by decide) ?_
          have hi_hr_304 : zEq x_303.toInt (x1.toInt + (A_33 40 (x1.toInt + 43).toNat).toInt + 830) := by
            obtain ⟨f_302, l_302, u_302⟩ := z_add ex_302 rfl ti_830
            try replace f_302 : x_302.toInt = x1.toInt + 830 := by omega
            clear l_302 u_302
            obtain ⟨f_303, l_303, u_303⟩ := z_add ex_303 rfl rfl
            try replace f_303 : x_303.toInt = x_302.toInt + (A_33 40 (x1.toInt + 43).toNat).toInt := by omega
            clear l_303 u_303
            show x_303.toInt = (x1.toInt + (A_33 40 (x1.toInt + 43).toNat).toInt + 830)
            omega
          have hl_hr_304 : 830 ≤ (A_33 40 (x1.toInt + 43).toNat).toInt + 830 ∧ (A_33 40 (x1.toInt + 43).toNat).toInt + 830 ≤ 889 := by
            omega
          have hid_hr_304 : (x1.toInt + (A_33 40 (x1.toInt + 43).toNat).toInt + 830) = x1.toInt + ((A_33 40 (x1.toInt + 43).toNat).toInt + 830) := by simp only [Int.add_assoc, Int.add_sub_assoc]
          have hr_304 := z_cell (lo := 830) (hi := 1289) hp0 hi_hr_304 hid_hr_304 hl_hr_304 (by decide)
          replace hid_hr_304 : zEq (x1.toInt + (A_33 40 (x1.toInt + 43).toNat).toInt + 830) (x1.toInt + ((A_33 40 (x1.toInt + 43).toNat).toInt + 830)) := hid_hr_304
          have hin_305 : vp_in x_303 (zn K (zr K a0 0)) := vp_in_iff.mpr (by rw [(hf_1.2.2 (by decide))]; exact hr_304.in)
          refine mst_40 C hM hs hP hS hf_1.1 hT hf_1.2.1 hin_305 (tp_830 hr_304) dX12_doLay_194 (fun A_306 H locs hE_306 hT hP hS => ?_)
          have ep_307 : x_303.toNatClampNeg = (x1.toInt + (A_33 40 (x1.toInt + 43).toNat).toInt + 830).toNat := z_posE hi_hr_304
          rw [ep_307] at hE_306
          clear ep_307
          have FA := frA FA (frAu hE_306) (by decide)
          have FC := fC.tr FC (fC.st (b := x1.toInt) (lo := 830) (hi := 889) hE_306 hb0.1 (by decide) hid_hr_304 hl_hr_304) (by decide)
          have WZ := wz.st WZ hE_306 (Or.inr ⟨by omega, by omega, Or.inr (by omega)⟩)
          refine lv_aload_n hx hb dX12_doLay_195 rfl (lv_at hl 2 rfl) ?_
          refine mg_0 C hs hP ha0 hk0 wf_X12_8 dX12_doLay_196 ?_
          refine lv_iload_n hx hb dX12_doLay_199 rfl (lv_at hl 3 rfl) ?_
          refine lv_bipush (v := 43) hx hb dX12_doLay_200 (by decide) ?_
          refine lv_iadd hx hb dX12_doLay_202 ?_
          refine lv_topi (fun x_308 ex_308 => ?_)
          refine lv_dup2_11 hx hb dX12_doLay_203 rfl rfl ?_
          have hi_hr_309 : zEq x_308.toInt (x1.toInt + 43) := by
            obtain ⟨f_308, l_308, u_308⟩ := z_add ex_308 rfl ti_43
            try replace f_308 : x_308.toInt = x1.toInt + 43 := by omega
            clear l_308 u_308
            show x_308.toInt = (x1.toInt + 43)
            omega
          have hl_hr_309 : (43 : Int) ≤ 43 ∧ 43 ≤ (43 : Int) := by decide
          have hid_hr_309 : (x1.toInt + 43) = x1.toInt + (43) := by simp only [Int.add_assoc, Int.add_sub_assoc]
          have hr_309 := z_cell (lo := 43) (hi := 43) hp0 hi_hr_309 hid_hr_309 hl_hr_309 (by decide)
          replace hid_hr_309 : zEq (x1.toInt + 43) (x1.toInt + (43)) := hid_hr_309
          have hin_310 : vp_in x_308 (zn K (zr K a0 0)) := vp_in_iff.mpr (by rw [(hf_1.2.2 (by decide))]; exact hr_309.in)
          refine mld_40 C hs hP hf_1.1 hf_1.2.1 hin_310 dX12_doLay_204 ?_
          have ep_311 : x_308.toNatClampNeg = (x1.toInt + 43).toNat := z_posE hi_hr_309
          rw [ep_311]
          obtain ⟨f_308, l_308, u_308⟩ := z_add ex_308 rfl ti_43
          try replace f_308 : x_308.toInt = x1.toInt + 43 := by omega
          clear l_308 u_308
          obtain ⟨f_302, l_302, u_302⟩ := z_add ex_302 rfl ti_830
          try replace f_302 : x_302.toInt = x1.toInt + 830 := by omega
          clear l_302 u_302
          obtain ⟨f_303, l_303, u_303⟩ := z_add ex_303 rfl rfl
          try replace f_303 : x_303.toInt = x_302.toInt + (A_33 40 (x1.toInt + 43).toNat).toInt := by omega
          clear l_303 u_303
          have hn_312 : (x1.toInt + 43).toNat ≠ (x1.toInt + (A_33 40 (x1.toInt + 43).toNat).toInt + 830).toNat := zNe (by omega) (by omega) (by omega)
          obtain ⟨f_287, l_287, u_287⟩ := z_add ex_287 rfl ti_770
          try replace f_287 : x_287.toInt = x1.toInt + 770 := by omega
          clear l_287 u_287
          obtain ⟨f_288, l_288, u_288⟩ := z_add ex_288 rfl rfl
          try replace f_288 : x_288.toInt = x_287.toInt + (A_33 40 (x1.toInt + 43).toNat).toInt := by omega
          clear l_288 u_288
          have hn_313 : (x1.toInt + 43).toNat ≠ (x1.toInt + (A_33 40 (x1.toInt + 43).toNat).toInt + 770).toNat := zNe (by omega) (by omega) (by omega)
          have hn_314 : (x1.toInt + 43).toNat ≠ (x1.toInt + (A_33 40 (x1.toInt + 43).toNat).toInt + 710).toNat := zNe (by omega) (by omega) (by omega)
          have hn_315 : (x1.toInt + 43).toNat ≠ (x1.toInt + (A_33 40 (x1.toInt + 43).toNat).toInt + 650).toNat := zNe (by omega) (by omega) (by omega)
          have ev_316 : A_306 40 (x1.toInt + 43).toNat = A_33 40 (x1.toInt + 43).toNat := by rw [hE_306, va_up_self, pk_un hn_312, hE_299, va_up_self, pk_un hn_313, hE_285, va_up_self, pk_un hn_314, hE_266, va_up_self, pk_un hn_315]
          clear hn_312 hn_313 hn_314 hn_315
          rw [ev_316]
          clear ep_311
          refine lv_iconst (v := 1) hx hb dX12_doLay_205 (by decide) ?_
          refine lv_iadd hx hb dX12_doLay_206 ?_
          refine lv_topi (fun x_317 ex_317 => ?_)
          have hin_318 : vp_in x_308 (zn K (zr K a0 0)) := vp_in_iff.mpr (by rw [(hf_1.2.2 (by decide))]; exact hr_309.in)
          obtain ⟨f_317, l_317, u_317⟩ := z_add ex_317 rfl ti_1
          try replace f_317 : x_317.toInt = (A_33 40 (x1.toInt + 43).toNat).toInt + 1 := by omega
          clear l_317 u_317
          refine mst_40 C hM hs hP hS hf_1.1 hT hf_1.2.1 hin_318 (tp_43 hr_309 (show 0 ≤ x_317.toInt ∧ x_317.toInt ≤ 60 from by omega)) dX12_doLay_207 (fun A_319 H locs hE_319 hT hP hS => ?_)
          have ep_320 : x_308.toNatClampNeg = (x1.toInt + 43).toNat := z_posE hi_hr_309
          rw [ep_320] at hE_319
          clear ep_320
          have FA := frA FA (frAu hE_319) (by decide)
          have FC := fC.tr FC (fC.st (b := x1.toInt) (lo := 43) (hi := 43) hE_319 hb0.1 (by decide) hid_hr_309 hl_hr_309) (by decide)
          have WZ := wz.st WZ hE_319 (Or.inr ⟨by omega, by omega, Or.inl (by omega)⟩)
          have fq_321 : fC (A 40) (A_266 40) x1.toInt ([(22, 25), (43, 43), (230, 469), (650, 889)] : List (Int × Int)) := fC.tr (fC.tr fC.rf iv_33_1 (by decide)) (fC.s2 (lo := 650) (hi := 709) hE_266 hb0.1 (by decide) ⟨by omega, by omega⟩) (by decide)
          have fq_322 : fC (A 40) (A_285 40) x1.toInt ([(22, 25), (43, 43), (230, 469), (650, 889)] : List (Int × Int)) := fC.tr fq_321 (fC.s2 (lo := 710) (hi := 769) hE_285 hb0.1 (by decide) ⟨by omega, by omega⟩) (by decide)
          have fq_323 : fC (A 40) (A_299 40) x1.toInt ([(22, 25), (43, 43), (230, 469), (650, 889)] : List (Int × Int)) := fC.tr fq_322 (fC.s2 (lo := 770) (hi := 829) hE_299 hb0.1 (by decide) ⟨by omega, by omega⟩) (by decide)
          have fq_324 : fC (A 40) (A_306 40) x1.toInt ([(22, 25), (43, 43), (230, 469), (650, 889)] : List (Int × Int)) := fC.tr fq_323 (fC.s2 (lo := 830) (hi := 889) hE_306 hb0.1 (by decide) ⟨by omega, by omega⟩) (by decide)
          have fq_325 : fC (A 40) (A_319 40) x1.toInt ([(22, 25), (43, 43), (230, 469), (650, 889)] : List (Int × Int)) := fC.tr fq_324 (fC.s2 (lo := 43) (hi := 43) hE_319 hb0.1 (by decide) ⟨by omega, by omega⟩) (by decide)
          have fq_327 : fC (A_33 40) (A_266 40) x1.toInt ([(43, 43), (650, 709), (710, 769), (770, 829), (830, 889)] : List (Int × Int)) := fC.tr fC.rf (fC.s2 (lo := 650) (hi := 709) hE_266 hb0.1 (by decide) ⟨by omega, by omega⟩) (by decide)
          have fq_328 : fC (A_33 40) (A_285 40) x1.toInt ([(43, 43), (650, 709), (710, 769), (770, 829), (830, 889)] : List (Int × Int)) := fC.tr fq_327 (fC.s2 (lo := 710) (hi := 769) hE_285 hb0.1 (by decide) ⟨by omega, by omega⟩) (by decide)
          have fq_329 : fC (A_33 40) (A_299 40) x1.toInt ([(43, 43), (650, 709), (710, 769), (770, 829), (830, 889)] : List (Int × Int)) := fC.tr fq_328 (fC.s2 (lo := 770) (hi := 829) hE_299 hb0.1 (by decide) ⟨by omega, by omega⟩) (by decide)
          have fq_330 : fC (A_33 40) (A_306 40) x1.toInt ([(43, 43), (650, 709), (710, 769), (770, 829), (830, 889)] : List (Int × Int)) := fC.tr fq_329 (fC.s2 (lo := 830) (hi := 889) hE_306 hb0.1 (by decide) ⟨by omega, by omega⟩) (by decide)
          have fq_331 : fC (A_33 40) (A_319 40) x1.toInt ([(43, 43), (650, 709), (710, 769), (770, 829), (830, 889)] : List (Int × Int)) := fC.tr fq_330 (fC.s2 (lo := 43) (hi := 43) hE_319 hb0.1 (by decide) ⟨by omega, by omega⟩) (by decide)
          have rq_326 : ∀ j : Int, x1.toInt + 22 ≤ j → j ≤ x1.toInt + 25 → A_319 40 j.toNat = A_33 40 j.toNat := fun j h1 h2 => fC.ar fq_331 hb0.1 (lo := 22) (hi := 25) (by decide) j (by decide) h1 h2
          have es_332 : A_319 40 (x1.toInt + 43).toNat = x_317 := by rw [hE_319, va_up_self, pk_us]
          exact J_208_152 A_319 _ _ (A_33 40 (x1.toInt + 43).toNat) _ fq_325 (by rw [rq_326 (x1.toInt + x3.toInt + 22) (by omega) (by omega)]; exact iv_33_2) (fun q9 h1 h2 h3 => by rw [rq_326 (x1.toInt + q9 + 22) (by omega) (by omega)]; exact iv_33_3 q9 h1 h2 h3) (by rw [es_332]; omega) (by omega) FA FC WZ hT hP hS (lv_sub hl [2, 3, 4, 5, 6, 1, 0] rfl)
      · skip
        refine lv_aload_n hx hb dX12_doLay_55 rfl (lv_at hl 2 rfl) ?_
        refine mg_0 C hs hP ha0 hk0 wf_X12_8 dX12_doLay_56 ?_
        refine lv_iload_n hx hb dX12_doLay_59 rfl (lv_at hl 3 rfl) ?_
        refine lv_sipush (v := 230) hx hb dX12_doLay_60 (by decide) ?_
        refine lv_iadd hx hb dX12_doLay_63 ?_
        refine lv_topi (fun x_333 ex_333 => ?_)
        refine lv_bipush (v := 60) hx hb dX12_doLay_64 (by decide) ?_
        refine lv_iload_n hx hb dX12_doLay_66 rfl (lv_at hl 5 rfl) ?_
        refine lv_imul hx hb dX12_doLay_67 ?_
        refine lv_topi (fun x_334 ex_334 => ?_)
        refine lv_iadd hx hb dX12_doLay_68 ?_
        refine lv_topi (fun x_335 ex_335 => ?_)
        refine lv_iload hx hb dX12_doLay_69 (lv_at hl 0 rfl) ?_
        refine lv_iadd hx hb dX12_doLay_71 ?_
        refine lv_topi (fun x_336 ex_336 => ?_)
        refine lv_aload_n hx hb dX12_doLay_72 rfl (lv_at hl 2 rfl) ?_
        refine mg_0 C hs hP ha0 hk0 wf_X12_8 dX12_doLay_73 ?_
        refine lv_iload_n hx hb dX12_doLay_76 rfl (lv_at hl 3 rfl) ?_
        refine lv_sipush (v := 230) hx hb dX12_doLay_77 (by decide) ?_
        refine lv_iadd hx hb dX12_doLay_80 ?_
        refine lv_topi (fun x_337 ex_337 => ?_)
        refine lv_bipush (v := 60) hx hb dX12_doLay_81 (by decide) ?_
        refine lv_iload_n hx hb dX12_doLay_83 rfl (lv_at hl 5 rfl) ?_
        refine lv_imul hx hb dX12_doLay_84 ?_
        refine lv_topi (fun x_338 ex_338 => ?_)
        refine lv_iadd hx hb dX12_doLay_85 ?_
        refine lv_topi (fun x_339 ex_339 => ?_)
        refine lv_iload hx hb dX12_doLay_86 (lv_at hl 0 rfl) ?_
        refine lv_iadd hx hb dX12_doLay_88 ?_
        refine lv_topi (fun x_340 ex_340 => ?_)
        refine lv_iconst (v := 1) hx hb dX12_doLay_89 (by decide) ?_
        refine lv_iadd hx hb dX12_doLay_90 ?_
        refine lv_topi (fun x_341 ex_341 => ?_)
        have hi_hr_342 : zEq x_341.toInt (x1.toInt + 60 * x3.toInt + y_31.toInt + 231) := by
          have g_343 := z_rng x1
          obtain ⟨f_337, l_337, u_337⟩ := z_add ex_337 rfl ti_230
          try replace f_337 : x_337.toInt = x1.toInt + 230 := by omega
          clear l_337 u_337
          have g_344 := z_rng x3
          obtain ⟨f_338, l_338, u_338⟩ := z_mul ex_338 ti_60 rfl
          try replace f_338 : x_338.toInt = 60 * x3.toInt := by omega
          clear l_338 u_338
          obtain ⟨f_339, l_339, u_339⟩ := z_add ex_339 rfl rfl
          try replace f_339 : x_339.toInt = x_337.toInt + x_338.toInt := by omega
          clear l_339 u_339
          have g_345 := z_rng y_31
          obtain ⟨f_340, l_340, u_340⟩ := z_add ex_340 rfl rfl
          try replace f_340 : x_340.toInt = x_339.toInt + y_31.toInt := by omega
          clear l_340 u_340
          obtain ⟨f_341, l_341, u_341⟩ := z_add ex_341 rfl ti_1
          try replace f_341 : x_341.toInt = x_340.toInt + 1 := by omega
          clear l_341 u_341
          show x_341.toInt = (x1.toInt + 60 * x3.toInt + y_31.toInt + 231)
          omega
        have hl_hr_342 : 230 ≤ 60 * x3.toInt + y_31.toInt + 231 ∧ 60 * x3.toInt + y_31.toInt + 231 ≤ 469 := by
          have g_346 := z_rng x1
          have g_347 := z_rng x3
          have g_348 := z_rng y_31
          omega
        have hid_hr_342 : (x1.toInt + 60 * x3.toInt + y_31.toInt + 231) = x1.toInt + (60 * x3.toInt + y_31.toInt + 231) := by simp only [Int.add_assoc, Int.add_sub_assoc]
        have hr_342 := z_cell (lo := 170) (hi := 469) hp0 hi_hr_342 hid_hr_342 hl_hr_342 (by decide)
        replace hid_hr_342 : zEq (x1.toInt + 60 * x3.toInt + y_31.toInt + 231) (x1.toInt + (60 * x3.toInt + y_31.toInt + 231)) := hid_hr_342
        have hin_349 : vp_in x_341 (zn K (zr K a0 0)) := vp_in_iff.mpr (by rw [(hf_1.2.2 (by decide))]; exact hr_342.in)
        refine mld_40 C hs hP hf_1.1 hf_1.2.1 hin_349 dX12_doLay_91 ?_
        have ep_350 : x_341.toNatClampNeg = (x1.toInt + 60 * x3.toInt + y_31.toInt + 231).toNat := z_posE hi_hr_342
        rw [ep_350]
        have tv_351 := rv_170 hT hr_342
        rw [ep_350] at tv_351
        clear ep_350
        have hi_hr_352 : zEq x_336.toInt (x1.toInt + 60 * x3.toInt + y_31.toInt + 230) := by
          have g_353 := z_rng x1
          obtain ⟨f_333, l_333, u_333⟩ := z_add ex_333 rfl ti_230
          try replace f_333 : x_333.toInt = x1.toInt + 230 := by omega
          clear l_333 u_333
          have g_354 := z_rng x3
          obtain ⟨f_334, l_334, u_334⟩ := z_mul ex_334 ti_60 rfl
          try replace f_334 : x_334.toInt = 60 * x3.toInt := by omega
          clear l_334 u_334
          obtain ⟨f_335, l_335, u_335⟩ := z_add ex_335 rfl rfl
          try replace f_335 : x_335.toInt = x_333.toInt + x_334.toInt := by omega
          clear l_335 u_335
          have g_355 := z_rng y_31
          obtain ⟨f_336, l_336, u_336⟩ := z_add ex_336 rfl rfl
          try replace f_336 : x_336.toInt = x_335.toInt + y_31.toInt := by omega
          clear l_336 u_336
          show x_336.toInt = (x1.toInt + 60 * x3.toInt + y_31.toInt + 230)
          omega
        have hl_hr_352 : 230 ≤ 60 * x3.toInt + y_31.toInt + 230 ∧ 60 * x3.toInt + y_31.toInt + 230 ≤ 469 := by
          have g_356 := z_rng x1
          have g_357 := z_rng x3
          have g_358 := z_rng y_31
          omega
        have hid_hr_352 : (x1.toInt + 60 * x3.toInt + y_31.toInt + 230) = x1.toInt + (60 * x3.toInt + y_31.toInt + 230) := by simp only [Int.add_assoc, Int.add_sub_assoc]
        have hr_352 := z_cell (lo := 170) (hi := 469) hp0 hi_hr_352 hid_hr_352 hl_hr_352 (by decide)
        replace hid_hr_352 : zEq (x1.toInt + 60 * x3.toInt + y_31.toInt + 230) (x1.toInt + (60 * x3.toInt + y_31.toInt + 230)) := hid_hr_352
        have hin_359 : vp_in x_336 (zn K (zr K a0 0)) := vp_in_iff.mpr (by rw [(hf_1.2.2 (by decide))]; exact hr_352.in)
        have g_361 := z_rng (A_33 40 (x1.toInt + 60 * x3.toInt + y_31.toInt + 231).toNat)
        refine mst_40 C hM hs hP hS hf_1.1 hT hf_1.2.1 hin_359 (tp_170 hr_352 (show 0 ≤ (A_33 40 (x1.toInt + 60 * x3.toInt + y_31.toInt + 231).toNat).toInt ∧ (A_33 40 (x1.toInt + 60 * x3.toInt + y_31.toInt + 231).toNat).toInt ≤ 59 from by omega)) dX12_doLay_92 (fun A_360 H locs hE_360 hT hP hS => ?_)
        have ep_362 : x_336.toNatClampNeg = (x1.toInt + 60 * x3.toInt + y_31.toInt + 230).toNat := z_posE hi_hr_352
        rw [ep_362] at hE_360
        clear ep_362
        have FA := frA FA (frAu hE_360) (by decide)
        have FC := fC.tr FC (fC.st (b := x1.toInt) (lo := 230) (hi := 469) hE_360 hb0.1 (by decide) hid_hr_352 hl_hr_352) (by decide)
        have WZ := wz.st WZ hE_360 (Or.inr ⟨by omega, by omega, Or.inr (by omega)⟩)
        obtain ⟨x_363, ex_363⟩ : ∃ y : Int32, y = y_31 + 1 := ⟨_, rfl⟩
        refine lv_iinc (v := x_363) (lv' := [(6, .int x_363), (5, .int (A 40 (x1.toInt + 60 * x3.toInt + x4.toInt + 230).toNat)), (0, .ref a0), (1, .int x1), (2, .int x2), (3, .int x3), (4, .int x4)]) hx hb dX12_doLay_93 hl (k := 0) rfl (by rw [ex_363]; rfl) (by decide) rfl (fun ls hl => ?_)
        refine lv_goto (tgt := 39) hx hb dX12_doLay_96 (by decide) ?_
        have g_364 := z_rng y_31
        obtain ⟨f_363, l_363, u_363⟩ := z_add ex_363 rfl ti_1
        try replace f_363 : x_363.toInt = y_31.toInt + 1 := by omega
        clear l_363 u_363
        have g_365 := z_rng (A_33 40 (x1.toInt + x3.toInt + 22).toNat)
        have g_367 := z_rng x1
        have g_368 := z_rng x3
        have fq_366 : fC (A 40) (A_360 40) x1.toInt ([(22, 25), (230, 469)] : List (Int × Int)) := fC.tr iv_33_1 (fC.s2 (lo := 230) (hi := 469) hE_360 hb0.1 (by decide) ⟨by omega, by omega⟩) (by decide)
        exact ih_32 A_360 _ _ x_363 _ (by have h9 : _ < _ + 1 := hmz; unfold zHid at hmz; omega) (by omega) fq_366 (by rw [hE_360, va_up_self, pk_un (zNe (by omega) (by omega) (by omega))]; exact iv_33_2) (fun q9 h1 h2 h3 => by rw [hE_360, va_up_self, pk_un (zNe (by omega) (by omega) (by omega))]; exact iv_33_3 q9 h1 h2 h3) FA FC WZ hT hP hS (lv_sub hl [0, 1, 2, 3, 4, 5, 6] rfl)
  have g_369 := z_rng x4
  have g_371 := z_rng x1
  have g_372 := z_rng x3
  have fq_370 : fC (A 40) (A_28 40) x1.toInt ([(22, 25), (230, 469)] : List (Int × Int)) := fC.tr fC.rf (fC.s2 (lo := 22) (hi := 25) hE_28 hb0.1 (by decide) ⟨by omega, by omega⟩) (by decide)
  exact L_39_32 _ A_28 _ _ x4 _ (Nat.lt_succ_self _) (Int.le_refl _) fq_370 (by rw [hE_28, va_up_self, pk_us]; omega) (fun q9 h1 h2 h3 => by rw [hE_28, va_up_self, pk_un (zNe (by omega) (by omega) (by omega))]) FA FC WZ hT hP hS (lv_sub hl [0, 1, 2, 3, 4, 5, 6] rfl)
