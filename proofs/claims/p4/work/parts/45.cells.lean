set_option maxHeartbeats 4000000 in
set_option maxRecDepth 100000 in
theorem c_X12_tell (l : Launch) (D : va_G) (K : zK) (hM : mK K) (f : Nat → Int32) (A : Nat → Nat → Int32) (hT : mT f A) (a0 : Nat) (ha0 : a0 ∈ zl K) (hk0 : zk K a0 = 11) (x1 : Int32) (x2 : Int32) (x3 : Int32) (x4 : Int32) (x5 : Int32) (hp0 : zRow x1.toInt) (hp1 : (A 40 (x1.toInt + 44).toNat).toInt ≤ 1000000000) : Met l yX12_tell (zc yX12_tell cX12_tell 7 none) (rmd 0) (va_Pc [.ref a0, .int x1, .int x2, .int x3, .int x4, .int x5] (zB D K (mV K f A))) (mQv D K (fun f' A' => mT f' A' ∧ (∀ k, k ∉ ([40] : List Nat) → A' k = A k) ∧ (∀ k, k ∉ ([] : List Nat) → f' k = f k) ∧ fC (A 40) (A' 40) x1.toInt ([(44, 44), (890, 1289)] : List (Int × Int)) ∧ (A' 40 (x1.toInt + 44).toNat).toInt = (A 40 (x1.toInt + 44).toNat).toInt + 1 ∧ ((x2.toInt ≠ 0 → 0 ≤ x3.toInt ∧ x3.toInt ≤ 3) → (x2.toInt = 1 → 0 ≤ x4.toInt ∧ x4.toInt < (A 40 (x1.toInt + 1).toNat).toInt) → (x2.toInt = 6 → x3.toInt ≤ 1) → tO (A 40) x1.toInt → tO (A' 40) x1.toInt))) 0 0 (zA K) := by
  refine zin (by decide) (Nat.le_of_ble_eq_true rfl) ?_
  intro p e s m args below meth c ls Q hQ C hr hlk hP hs hl
  have C : CallFix p m c cX12_tell 7 s args zw RX12 := C
  obtain ⟨hx, hb, hml, hown, hts⟩ := id C
  have hO := hM.1
  have hS : va_S (zA K) s.heap s.heap [] := va_S.rf
  have FA : ∀ k, k ∉ ([40] : List Nat) → A k = A k := fun _ _ => rfl
  have FF : ∀ k, k ∉ ([] : List Nat) → f k = f k := fun _ _ => rfl
  have FC : fC (A 40) (A 40) x1.toInt ([(44, 44), (890, 1289)] : List (Int × Int)) := fun _ _ _ => rfl
  have hl : lv_has ls 7 [(0, .ref a0), (1, .int x1), (2, .int x2), (3, .int x3), (4, .int x4), (5, .int x5)] := hl
  have hb0 := hp0.lin
  refine lv_aload_n hx hb dX12_tell_0 rfl (lv_at hl 0 rfl) ?_
  refine mg_0 C hs hP ha0 hk0 wf_X12_8 dX12_tell_1 ?_
  have hf_1 := hO.r (j := 0) ha0 hk0 (rfl : zX 11 0 = some (40, 47730))
  refine lv_iload_n hx hb dX12_tell_4 rfl (lv_at hl 1 rfl) ?_
  refine lv_bipush (v := 44) hx hb dX12_tell_5 (by decide) ?_
  refine lv_iadd hx hb dX12_tell_7 ?_
  refine lv_topi (fun x_2 ex_2 => ?_)
  have hi_hr_3 : zEq x_2.toInt (x1.toInt + 44) := by
    have g_4 := z_rng x1
    obtain ⟨f_2, l_2, u_2⟩ := z_add ex_2 rfl ti_44
    try replace f_2 : x_2.toInt = x1.toInt + 44 := by omega
    clear l_2 u_2
    show x_2.toInt = (x1.toInt + 44)
    omega
  have hl_hr_3 : (44 : Int) ≤ 44 ∧ 44 ≤ (44 : Int) := by decide
  have hid_hr_3 : (x1.toInt + 44) = x1.toInt + (44) := by simp only [Int.add_assoc, Int.add_sub_assoc]
  have hr_3 := z_cell (lo := 44) (hi := 44) hp0 hi_hr_3 hid_hr_3 hl_hr_3 (by decide)
  replace hid_hr_3 : zEq (x1.toInt + 44) (x1.toInt + (44)) := hid_hr_3
  have hin_5 : vp_in x_2 (zn K (zr K a0 0)) := vp_in_iff.mpr (by rw [(hf_1.2.2 (by decide))]; exact hr_3.in)
  refine mld_40 C hs hP hf_1.1 hf_1.2.1 hin_5 dX12_tell_8 ?_
  have ep_6 : x_2.toNatClampNeg = (x1.toInt + 44).toNat := z_posE hi_hr_3
  rw [ep_6]
  have tv_7 := rv_44 hT hr_3
  rw [ep_6] at tv_7
  refine lv_istore (lv' := [(6, .int (A 40 (x1.toInt + 44).toNat)), (0, .ref a0), (1, .int x1), (2, .int x2), (3, .int x3), (4, .int x4), (5, .int x5)]) hx hb dX12_tell_9 hl (by decide) rfl (fun ls hl => ?_)
  refine lv_iload hx hb dX12_tell_11 (lv_at hl 0 rfl) ?_
  refine lv_bipush (v := 100) hx hb dX12_tell_13 (by decide) ?_
  refine bi_ge (tgt := 90) hx hb rfl ti_100 dX12_tell_15 (by decide) (fun c_8 => ?_) (fun c_8 => ?_)
  · skip
    refine lv_aload_n hx hb dX12_tell_90 rfl (lv_at hl 1 rfl) ?_
    refine mg_0 C hs hP ha0 hk0 wf_X12_8 dX12_tell_91 ?_
    refine lv_iload_n hx hb dX12_tell_94 rfl (lv_at hl 2 rfl) ?_
    refine lv_bipush (v := 44) hx hb dX12_tell_95 (by decide) ?_
    refine lv_iadd hx hb dX12_tell_97 ?_
    refine lv_topi (fun x_9 ex_9 => ?_)
    refine lv_dup2_11 hx hb dX12_tell_98 rfl rfl ?_
    have hi_hr_10 : zEq x_9.toInt (x1.toInt + 44) := by
      have g_11 := z_rng x1
      obtain ⟨f_9, l_9, u_9⟩ := z_add ex_9 rfl ti_44
      try replace f_9 : x_9.toInt = x1.toInt + 44 := by omega
      clear l_9 u_9
      show x_9.toInt = (x1.toInt + 44)
      omega
    have hl_hr_10 : (44 : Int) ≤ 44 ∧ 44 ≤ (44 : Int) := by decide
    have hid_hr_10 : (x1.toInt + 44) = x1.toInt + (44) := by simp only [Int.add_assoc, Int.add_sub_assoc]
    have hr_10 := z_cell (lo := 44) (hi := 44) hp0 hi_hr_10 hid_hr_10 hl_hr_10 (by decide)
    replace hid_hr_10 : zEq (x1.toInt + 44) (x1.toInt + (44)) := hid_hr_10
    have hin_12 : vp_in x_9 (zn K (zr K a0 0)) := vp_in_iff.mpr (by rw [(hf_1.2.2 (by decide))]; exact hr_10.in)
    refine mld_40 C hs hP hf_1.1 hf_1.2.1 hin_12 dX12_tell_99 ?_
    have ep_13 : x_9.toNatClampNeg = (x1.toInt + 44).toNat := z_posE hi_hr_10
    rw [ep_13]
    refine lv_iconst (v := 1) hx hb dX12_tell_100 (by decide) ?_
    refine lv_iadd hx hb dX12_tell_101 ?_
    refine lv_topi (fun x_14 ex_14 => ?_)
    have hin_15 : vp_in x_9 (zn K (zr K a0 0)) := vp_in_iff.mpr (by rw [(hf_1.2.2 (by decide))]; exact hr_10.in)
    have g_17 := z_rng (A 40 (x1.toInt + 44).toNat)
    obtain ⟨f_14, l_14, u_14⟩ := z_add ex_14 rfl ti_1
    try replace f_14 : x_14.toInt = (A 40 (x1.toInt + 44).toNat).toInt + 1 := by omega
    clear l_14 u_14
    refine mst_40 C hM hs hP hS hf_1.1 hT hf_1.2.1 hin_15 (tp_44 hr_10 (show 0 ≤ x_14.toInt from by omega)) dX12_tell_102 (fun A_16 H locs hE_16 hT hP hS => ?_)
    have ep_18 : x_9.toNatClampNeg = (x1.toInt + 44).toNat := z_posE hi_hr_10
    rw [ep_18] at hE_16
    have FA := frA FA (frAu hE_16) (by decide)
    have FC := fC.tr FC (fC.st (b := x1.toInt) (lo := 44) (hi := 44) hE_16 hb0.1 (by decide) hid_hr_10 hl_hr_10) (by decide)
    have eu_19 : A_16 40 = upd (A 40) ((x1.toInt + 44).toNat) x_14 := by rw [hE_16, va_up_self]
    have hz_20 : (A_16 40 (x1.toInt + 44).toNat).toInt = (A 40 (x1.toInt + 44).toNat).toInt + 1 := by rw [eu_19, pk_us]; omega
    exact maV hQ hx hb hr hlk hP hS ⟨hT, FA, FF, FC, ⟨hz_20, fun _ _ _ h9 => h9.fC hb0.1 (fC.s1 (k := 44) hE_16 hb0.1 (by decide)) (by decide) (by decide)⟩⟩ dX12_tell_103
  · skip
    refine lv_aload_n hx hb dX12_tell_18 rfl (lv_at hl 1 rfl) ?_
    refine mg_0 C hs hP ha0 hk0 wf_X12_8 dX12_tell_19 ?_
    refine lv_iload_n hx hb dX12_tell_22 rfl (lv_at hl 2 rfl) ?_
    refine lv_sipush (v := 890) hx hb dX12_tell_23 (by decide) ?_
    refine lv_iadd hx hb dX12_tell_26 ?_
    refine lv_topi (fun x_21 ex_21 => ?_)
    refine lv_iconst (v := 4) hx hb dX12_tell_27 (by decide) ?_
    refine lv_iload hx hb dX12_tell_28 (lv_at hl 0 rfl) ?_
    refine lv_imul hx hb dX12_tell_30 ?_
    refine lv_topi (fun x_22 ex_22 => ?_)
    refine lv_iadd hx hb dX12_tell_31 ?_
    refine lv_topi (fun x_23 ex_23 => ?_)
    refine lv_iload_n hx hb dX12_tell_32 rfl (lv_at hl 3 rfl) ?_
    have hi_hr_24 : zEq x_23.toInt (x1.toInt + 4 * (A 40 (x1.toInt + 44).toNat).toInt + 890) := by
      have g_25 := z_rng x1
      obtain ⟨f_21, l_21, u_21⟩ := z_add ex_21 rfl ti_890
      try replace f_21 : x_21.toInt = x1.toInt + 890 := by omega
      clear l_21 u_21
      have g_26 := z_rng (A 40 (x1.toInt + 44).toNat)
      obtain ⟨f_22, l_22, u_22⟩ := z_mul ex_22 ti_4 rfl
      try replace f_22 : x_22.toInt = 4 * (A 40 (x1.toInt + 44).toNat).toInt := by omega
      clear l_22 u_22
      obtain ⟨f_23, l_23, u_23⟩ := z_add ex_23 rfl rfl
      try replace f_23 : x_23.toInt = x_21.toInt + x_22.toInt := by omega
      clear l_23 u_23
      show x_23.toInt = (x1.toInt + 4 * (A 40 (x1.toInt + 44).toNat).toInt + 890)
      omega
    have hl_hr_24 : 890 ≤ 4 * (A 40 (x1.toInt + 44).toNat).toInt + 890 ∧ 4 * (A 40 (x1.toInt + 44).toNat).toInt + 890 ≤ 1289 := by
      have g_27 := z_rng x1
      have g_28 := z_rng (A 40 (x1.toInt + 44).toNat)
      omega
    have hid_hr_24 : (x1.toInt + 4 * (A 40 (x1.toInt + 44).toNat).toInt + 890) = x1.toInt + (4 * (A 40 (x1.toInt + 44).toNat).toInt + 890) := by simp only [Int.add_assoc, Int.add_sub_assoc]
    have hr_24 := z_cell (lo := 830) (hi := 1289) hp0 hi_hr_24 hid_hr_24 hl_hr_24 (by decide)
    replace hid_hr_24 : zEq (x1.toInt + 4 * (A 40 (x1.toInt + 44).toNat).toInt + 890) (x1.toInt + (4 * (A 40 (x1.toInt + 44).toNat).toInt + 890)) := hid_hr_24
    have hin_29 : vp_in x_23 (zn K (zr K a0 0)) := vp_in_iff.mpr (by rw [(hf_1.2.2 (by decide))]; exact hr_24.in)
    refine mst_40 C hM hs hP hS hf_1.1 hT hf_1.2.1 hin_29 (tp_830 hr_24) dX12_tell_33 (fun A_30 H locs hE_30 hT hP hS => ?_)
    have ep_31 : x_23.toNatClampNeg = (x1.toInt + 4 * (A 40 (x1.toInt + 44).toNat).toInt + 890).toNat := z_posE hi_hr_24
    rw [ep_31] at hE_30
    have FA := frA FA (frAu hE_30) (by decide)
    have FC := fC.tr FC (fC.st (b := x1.toInt) (lo := 890) (hi := 1289) hE_30 hb0.1 (by decide) hid_hr_24 hl_hr_24) (by decide)
    refine lv_aload_n hx hb dX12_tell_34 rfl (lv_at hl 1 rfl) ?_
    refine mg_0 C hs hP ha0 hk0 wf_X12_8 dX12_tell_35 ?_
    refine lv_iload_n hx hb dX12_tell_38 rfl (lv_at hl 2 rfl) ?_
    refine lv_sipush (v := 890) hx hb dX12_tell_39 (by decide) ?_
    refine lv_iadd hx hb dX12_tell_42 ?_
    refine lv_topi (fun x_32 ex_32 => ?_)
    refine lv_iconst (v := 4) hx hb dX12_tell_43 (by decide) ?_
    refine lv_iload hx hb dX12_tell_44 (lv_at hl 0 rfl) ?_
    refine lv_imul hx hb dX12_tell_46 ?_
    refine lv_topi (fun x_33 ex_33 => ?_)
    refine lv_iadd hx hb dX12_tell_47 ?_
    refine lv_topi (fun x_34 ex_34 => ?_)
    refine lv_iconst (v := 1) hx hb dX12_tell_48 (by decide) ?_
    refine lv_iadd hx hb dX12_tell_49 ?_
    refine lv_topi (fun x_35 ex_35 => ?_)
    refine lv_iload_n hx hb dX12_tell_50 rfl (lv_at hl 4 rfl) ?_
    have hi_hr_36 : zEq x_35.toInt (x1.toInt + 4 * (A 40 (x1.toInt + 44).toNat).toInt + 891) := by
      have g_37 := z_rng x1
      obtain ⟨f_32, l_32, u_32⟩ := z_add ex_32 rfl ti_890
      try replace f_32 : x_32.toInt = x1.toInt + 890 := by omega
      clear l_32 u_32
      have g_38 := z_rng (A 40 (x1.toInt + 44).toNat)
      obtain ⟨f_33, l_33, u_33⟩ := z_mul ex_33 ti_4 rfl
      try replace f_33 : x_33.toInt = 4 * (A 40 (x1.toInt + 44).toNat).toInt := by omega
      clear l_33 u_33
      obtain ⟨f_34, l_34, u_34⟩ := z_add ex_34 rfl rfl
      try replace f_34 : x_34.toInt = x_32.toInt + x_33.toInt := by omega
      clear l_34 u_34
      obtain ⟨f_35, l_35, u_35⟩ := z_add ex_35 rfl ti_1
      try replace f_35 : x_35.toInt = x_34.toInt + 1 := by omega
      clear l_35 u_35
      show x_35.toInt = (x1.toInt + 4 * (A 40 (x1.toInt + 44).toNat).toInt + 891)
      omega
    have hl_hr_36 : 890 ≤ 4 * (A 40 (x1.toInt + 44).toNat).toInt + 891 ∧ 4 * (A 40 (x1.toInt + 44).toNat).toInt + 891 ≤ 1289 := by
      have g_39 := z_rng x1
      have g_40 := z_rng (A 40 (x1.toInt + 44).toNat)
      omega
    have hid_hr_36 : (x1.toInt + 4 * (A 40 (x1.toInt + 44).toNat).toInt + 891) = x1.toInt + (4 * (A 40 (x1.toInt + 44).toNat).toInt + 891) := by simp only [Int.add_assoc, Int.add_sub_assoc]
    have hr_36 := z_cell (lo := 830) (hi := 1289) hp0 hi_hr_36 hid_hr_36 hl_hr_36 (by decide)
    replace hid_hr_36 : zEq (x1.toInt + 4 * (A 40 (x1.toInt + 44).toNat).toInt + 891) (x1.toInt + (4 * (A 40 (x1.toInt + 44).toNat).toInt + 891)) := hid_hr_36
    have hin_41 : vp_in x_35 (zn K (zr K a0 0)) := vp_in_iff.mpr (by rw [(hf_1.2.2 (by decide))]; exact hr_36.in)
    refine mst_40 C hM hs hP hS hf_1.1 hT hf_1.2.1 hin_41 (tp_830 hr_36) dX12_tell_51 (fun A_42 H locs hE_42 hT hP hS => ?_)
    have ep_43 : x_35.toNatClampNeg = (x1.toInt + 4 * (A 40 (x1.toInt + 44).toNat).toInt + 891).toNat := z_posE hi_hr_36
    rw [ep_43] at hE_42
    have FA := frA FA (frAu hE_42) (by decide)
    have FC := fC.tr FC (fC.st (b := x1.toInt) (lo := 890) (hi := 1289) hE_42 hb0.1 (by decide) hid_hr_36 hl_hr_36) (by decide)
    refine lv_aload_n hx hb dX12_tell_52 rfl (lv_at hl 1 rfl) ?_
    refine mg_0 C hs hP ha0 hk0 wf_X12_8 dX12_tell_53 ?_
    refine lv_iload_n hx hb dX12_tell_56 rfl (lv_at hl 2 rfl) ?_
    refine lv_sipush (v := 890) hx hb dX12_tell_57 (by decide) ?_
    refine lv_iadd hx hb dX12_tell_60 ?_
    refine lv_topi (fun x_44 ex_44 => ?_)
    refine lv_iconst (v := 4) hx hb dX12_tell_61 (by decide) ?_
    refine lv_iload hx hb dX12_tell_62 (lv_at hl 0 rfl) ?_
    refine lv_imul hx hb dX12_tell_64 ?_
    refine lv_topi (fun x_45 ex_45 => ?_)
    refine lv_iadd hx hb dX12_tell_65 ?_
    refine lv_topi (fun x_46 ex_46 => ?_)
    refine lv_iconst (v := 2) hx hb dX12_tell_66 (by decide) ?_
    refine lv_iadd hx hb dX12_tell_67 ?_
    refine lv_topi (fun x_47 ex_47 => ?_)
    refine lv_iload hx hb dX12_tell_68 (lv_at hl 5 rfl) ?_
    have hi_hr_48 : zEq x_47.toInt (x1.toInt + 4 * (A 40 (x1.toInt + 44).toNat).toInt + 892) := by
      have g_49 := z_rng x1
      obtain ⟨f_44, l_44, u_44⟩ := z_add ex_44 rfl ti_890
      try replace f_44 : x_44.toInt = x1.toInt + 890 := by omega
      clear l_44 u_44
      have g_50 := z_rng (A 40 (x1.toInt + 44).toNat)
      obtain ⟨f_45, l_45, u_45⟩ := z_mul ex_45 ti_4 rfl
      try replace f_45 : x_45.toInt = 4 * (A 40 (x1.toInt + 44).toNat).toInt := by omega
      clear l_45 u_45
      obtain ⟨f_46, l_46, u_46⟩ := z_add ex_46 rfl rfl
      try replace f_46 : x_46.toInt = x_44.toInt + x_45.toInt := by omega
      clear l_46 u_46
      obtain ⟨f_47, l_47, u_47⟩ := z_add ex_47 rfl ti_2
      try replace f_47 : x_47.toInt = x_46.toInt + 2 := by omega
      clear l_47 u_47
      show x_47.toInt = (x1.toInt + 4 * (A 40 (x1.toInt + 44).toNat).toInt + 892)
      omega
    have hl_hr_48 : 890 ≤ 4 * (A 40 (x1.toInt + 44).toNat).toInt + 892 ∧ 4 * (A 40 (x1.toInt + 44).toNat).toInt + 892 ≤ 1289 := by
      have g_51 := z_rng x1
      have g_52 := z_rng (A 40 (x1.toInt + 44).toNat)
      omega
    have hid_hr_48 : (x1.toInt + 4 * (A 40 (x1.toInt + 44).toNat).toInt + 892) = x1.toInt + (4 * (A 40 (x1.toInt + 44).toNat).toInt + 892) := by simp only [Int.add_assoc, Int.add_sub_assoc]
    have hr_48 := z_cell (lo := 830) (hi := 1289) hp0 hi_hr_48 hid_hr_48 hl_hr_48 (by decide)
    replace hid_hr_48 : zEq (x1.toInt + 4 * (A 40 (x1.toInt + 44).toNat).toInt + 892) (x1.toInt + (4 * (A 40 (x1.toInt + 44).toNat).toInt + 892)) := hid_hr_48
    have hin_53 : vp_in x_47 (zn K (zr K a0 0)) := vp_in_iff.mpr (by rw [(hf_1.2.2 (by decide))]; exact hr_48.in)
    refine mst_40 C hM hs hP hS hf_1.1 hT hf_1.2.1 hin_53 (tp_830 hr_48) dX12_tell_70 (fun A_54 H locs hE_54 hT hP hS => ?_)
    have ep_55 : x_47.toNatClampNeg = (x1.toInt + 4 * (A 40 (x1.toInt + 44).toNat).toInt + 892).toNat := z_posE hi_hr_48
    rw [ep_55] at hE_54
    have FA := frA FA (frAu hE_54) (by decide)
    have FC := fC.tr FC (fC.st (b := x1.toInt) (lo := 890) (hi := 1289) hE_54 hb0.1 (by decide) hid_hr_48 hl_hr_48) (by decide)
    refine lv_aload_n hx hb dX12_tell_71 rfl (lv_at hl 1 rfl) ?_
    refine mg_0 C hs hP ha0 hk0 wf_X12_8 dX12_tell_72 ?_
    refine lv_iload_n hx hb dX12_tell_75 rfl (lv_at hl 2 rfl) ?_
    refine lv_sipush (v := 890) hx hb dX12_tell_76 (by decide) ?_
    refine lv_iadd hx hb dX12_tell_79 ?_
    refine lv_topi (fun x_56 ex_56 => ?_)
    refine lv_iconst (v := 4) hx hb dX12_tell_80 (by decide) ?_
    refine lv_iload hx hb dX12_tell_81 (lv_at hl 0 rfl) ?_
    refine lv_imul hx hb dX12_tell_83 ?_
    refine lv_topi (fun x_57 ex_57 => ?_)
    refine lv_iadd hx hb dX12_tell_84 ?_
    refine lv_topi (fun x_58 ex_58 => ?_)
    refine lv_iconst (v := 3) hx hb dX12_tell_85 (by decide) ?_
    refine lv_iadd hx hb dX12_tell_86 ?_
    refine lv_topi (fun x_59 ex_59 => ?_)
    refine lv_iload hx hb dX12_tell_87 (lv_at hl 6 rfl) ?_
    have hi_hr_60 : zEq x_59.toInt (x1.toInt + 4 * (A 40 (x1.toInt + 44).toNat).toInt + 893) := by
      have g_61 := z_rng x1
      obtain ⟨f_56, l_56, u_56⟩ := z_add ex_56 rfl ti_890
      try replace f_56 : x_56.toInt = x1.toInt + 890 := by omega
      clear l_56 u_56
      have g_62 := z_rng (A 40 (x1.toInt + 44).toNat)
      obtain ⟨f_57, l_57, u_57⟩ := z_mul ex_57 ti_4 rfl
      try replace f_57 : x_57.toInt = 4 * (A 40 (x1.toInt + 44).toNat).toInt := by omega
      clear l_57 u_57
      obtain ⟨f_58, l_58, u_58⟩ := z_add ex_58 rfl rfl
      try replace f_58 : x_58.toInt = x_56.toInt + x_57.toInt := by omega
      clear l_58 u_58
      obtain ⟨f_59, l_59, u_59⟩ := z_add ex_59 rfl ti_3
      try replace f_59 : x_59.toInt = x_58.toInt + 3 := by omega
      clear l_59 u_59
      show x_59.toInt = (x1.toInt + 4 * (A 40 (x1.toInt + 44).toNat).toInt + 893)
      omega
    have hl_hr_60 : 890 ≤ 4 * (A 40 (x1.toInt + 44).toNat).toInt + 893 ∧ 4 * (A 40 (x1.toInt + 44).toNat).toInt + 893 ≤ 1289 := by
      have g_63 := z_rng x1
      have g_64 := z_rng (A 40 (x1.toInt + 44).toNat)
      omega
    have hid_hr_60 : (x1.toInt + 4 * (A 40 (x1.toInt + 44).toNat).toInt + 893) = x1.toInt + (4 * (A 40 (x1.toInt + 44).toNat).toInt + 893) := by simp only [Int.add_assoc, Int.add_sub_assoc]
    have hr_60 := z_cell (lo := 830) (hi := 1289) hp0 hi_hr_60 hid_hr_60 hl_hr_60 (by decide)
    replace hid_hr_60 : zEq (x1.toInt + 4 * (A 40 (x1.toInt + 44).toNat).toInt + 893) (x1.toInt + (4 * (A 40 (x1.toInt + 44).toNat).toInt + 893)) := hid_hr_60
    have hin_65 : vp_in x_59 (zn K (zr K a0 0)) := vp_in_iff.mpr (by rw [(hf_1.2.2 (by decide))]; exact hr_60.in)
    refine mst_40 C hM hs hP hS hf_1.1 hT hf_1.2.1 hin_65 (tp_830 hr_60) dX12_tell_89 (fun A_66 H locs hE_66 hT hP hS => ?_)
    have ep_67 : x_59.toNatClampNeg = (x1.toInt + 4 * (A 40 (x1.toInt + 44).toNat).toInt + 893).toNat := z_posE hi_hr_60
    rw [ep_67] at hE_66
    have FA := frA FA (frAu hE_66) (by decide)
    have FC := fC.tr FC (fC.st (b := x1.toInt) (lo := 890) (hi := 1289) hE_66 hb0.1 (by decide) hid_hr_60 hl_hr_60) (by decide)
    refine lv_aload_n hx hb dX12_tell_90 rfl (lv_at hl 1 rfl) ?_
    refine mg_0 C hs hP ha0 hk0 wf_X12_8 dX12_tell_91 ?_
    refine lv_iload_n hx hb dX12_tell_94 rfl (lv_at hl 2 rfl) ?_
    refine lv_bipush (v := 44) hx hb dX12_tell_95 (by decide) ?_
    refine lv_iadd hx hb dX12_tell_97 ?_
    refine lv_topi (fun x_68 ex_68 => ?_)
    refine lv_dup2_11 hx hb dX12_tell_98 rfl rfl ?_
    have hi_hr_69 : zEq x_68.toInt (x1.toInt + 44) := by
      have g_70 := z_rng x1
      obtain ⟨f_68, l_68, u_68⟩ := z_add ex_68 rfl ti_44
      try replace f_68 : x_68.toInt = x1.toInt + 44 := by omega
      clear l_68 u_68
      show x_68.toInt = (x1.toInt + 44)
      omega
    have hl_hr_69 : (44 : Int) ≤ 44 ∧ 44 ≤ (44 : Int) := by decide
    have hid_hr_69 : (x1.toInt + 44) = x1.toInt + (44) := by simp only [Int.add_assoc, Int.add_sub_assoc]
    have hr_69 := z_cell (lo := 44) (hi := 44) hp0 hi_hr_69 hid_hr_69 hl_hr_69 (by decide)
    replace hid_hr_69 : zEq (x1.toInt + 44) (x1.toInt + (44)) := hid_hr_69
    have hin_71 : vp_in x_68 (zn K (zr K a0 0)) := vp_in_iff.mpr (by rw [(hf_1.2.2 (by decide))]; exact hr_69.in)
    refine mld_40 C hs hP hf_1.1 hf_1.2.1 hin_71 dX12_tell_99 ?_
    have ep_72 : x_68.toNatClampNeg = (x1.toInt + 44).toNat := z_posE hi_hr_69
    rw [ep_72]
    have g_74 := z_rng x1
    obtain ⟨f_68, l_68, u_68⟩ := z_add ex_68 rfl ti_44
    try replace f_68 : x_68.toInt = x1.toInt + 44 := by omega
    clear l_68 u_68
    obtain ⟨f_56, l_56, u_56⟩ := z_add ex_56 rfl ti_890
    try replace f_56 : x_56.toInt = x1.toInt + 890 := by omega
    clear l_56 u_56
    have g_75 := z_rng (A 40 (x1.toInt + 44).toNat)
    obtain ⟨f_57, l_57, u_57⟩ := z_mul ex_57 ti_4 rfl
    try replace f_57 : x_57.toInt = 4 * (A 40 (x1.toInt + 44).toNat).toInt := by omega
    clear l_57 u_57
    obtain ⟨f_58, l_58, u_58⟩ := z_add ex_58 rfl rfl
    try replace f_58 : x_58.toInt = x_56.toInt + x_57.toInt := by omega
    clear l_58 u_58
    obtain ⟨f_59, l_59, u_59⟩ := z_add ex_59 rfl ti_3
    try replace f_59 : x_59.toInt = x_58.toInt + 3 := by omega
    clear l_59 u_59
    have hn_73 : (x1.toInt + 44).toNat ≠ (x1.toInt + 4 * (A 40 (x1.toInt + 44).toNat).toInt + 893).toNat := by omega
    obtain ⟨f_44, l_44, u_44⟩ := z_add ex_44 rfl ti_890
    try replace f_44 : x_44.toInt = x1.toInt + 890 := by omega
    clear l_44 u_44
    obtain ⟨f_45, l_45, u_45⟩ := z_mul ex_45 ti_4 rfl
    try replace f_45 : x_45.toInt = 4 * (A 40 (x1.toInt + 44).toNat).toInt := by omega
    clear l_45 u_45
    obtain ⟨f_46, l_46, u_46⟩ := z_add ex_46 rfl rfl
    try replace f_46 : x_46.toInt = x_44.toInt + x_45.toInt := by omega
    clear l_46 u_46
    obtain ⟨f_47, l_47, u_47⟩ := z_add ex_47 rfl ti_2
    try replace f_47 : x_47.toInt = x_46.toInt + 2 := by omega
    clear l_47 u_47
    have hn_76 : (x1.toInt + 44).toNat ≠ (x1.toInt + 4 * (A 40 (x1.toInt + 44).toNat).toInt + 892).toNat := by omega
    obtain ⟨f_32, l_32, u_32⟩ := z_add ex_32 rfl ti_890
    try replace f_32 : x_32.toInt = x1.toInt + 890 := by omega
    clear l_32 u_32
    obtain ⟨f_33, l_33, u_33⟩ := z_mul ex_33 ti_4 rfl
    try replace f_33 : x_33.toInt = 4 * (A 40 (x1.toInt + 44).toNat).toInt := by omega
    clear l_33 u_33
    obtain ⟨f_34, l_34, u_34⟩ := z_add ex_34 rfl rfl
    try replace f_34 : x_34.toInt = x_32.toInt + x_33.toInt := by omega
    clear l_34 u_34
    obtain ⟨f_35, l_35, u_35⟩ := z_add ex_35 rfl ti_1
    try replace f_35 : x_35.toInt = x_34.toInt + 1 := by omega
    clear l_35 u_35
    have hn_77 : (x1.toInt + 44).toNat ≠ (x1.toInt + 4 * (A 40 (x1.toInt + 44).toNat).toInt + 891).toNat := by omega
    obtain ⟨f_21, l_21, u_21⟩ := z_add ex_21 rfl ti_890
    try replace f_21 : x_21.toInt = x1.toInt + 890 := by omega
    clear l_21 u_21
    obtain ⟨f_22, l_22, u_22⟩ := z_mul ex_22 ti_4 rfl
    try replace f_22 : x_22.toInt = 4 * (A 40 (x1.toInt + 44).toNat).toInt := by omega
    clear l_22 u_22
    obtain ⟨f_23, l_23, u_23⟩ := z_add ex_23 rfl rfl
    try replace f_23 : x_23.toInt = x_21.toInt + x_22.toInt := by omega
    clear l_23 u_23
    have hn_78 : (x1.toInt + 44).toNat ≠ (x1.toInt + 4 * (A 40 (x1.toInt + 44).toNat).toInt + 890).toNat := by omega
    have ev_79 : A_66 40 (x1.toInt + 44).toNat = A 40 (x1.toInt + 44).toNat := by rw [hE_66, va_up_self, pk_un hn_73, hE_54, va_up_self, pk_un hn_76, hE_42, va_up_self, pk_un hn_77, hE_30, va_up_self, pk_un hn_78]
    rw [ev_79]
    refine lv_iconst (v := 1) hx hb dX12_tell_100 (by decide) ?_
    refine lv_iadd hx hb dX12_tell_101 ?_
    refine lv_topi (fun x_80 ex_80 => ?_)
    have hin_81 : vp_in x_68 (zn K (zr K a0 0)) := vp_in_iff.mpr (by rw [(hf_1.2.2 (by decide))]; exact hr_69.in)
    obtain ⟨f_80, l_80, u_80⟩ := z_add ex_80 rfl ti_1
    try replace f_80 : x_80.toInt = (A 40 (x1.toInt + 44).toNat).toInt + 1 := by omega
    clear l_80 u_80
    refine mst_40 C hM hs hP hS hf_1.1 hT hf_1.2.1 hin_81 (tp_44 hr_69 (show 0 ≤ x_80.toInt from by omega)) dX12_tell_102 (fun A_82 H locs hE_82 hT hP hS => ?_)
    have ep_83 : x_68.toNatClampNeg = (x1.toInt + 44).toNat := z_posE hi_hr_69
    rw [ep_83] at hE_82
    have FA := frA FA (frAu hE_82) (by decide)
    have FC := fC.tr FC (fC.st (b := x1.toInt) (lo := 44) (hi := 44) hE_82 hb0.1 (by decide) hid_hr_69 hl_hr_69) (by decide)
    have eu_84 : A_82 40 = upd (upd (upd (upd (upd (A 40) ((x1.toInt + 4 * (A 40 (x1.toInt + 44).toNat).toInt + 890).toNat) x2) ((x1.toInt + 4 * (A 40 (x1.toInt + 44).toNat).toInt + 891).toNat) x3) ((x1.toInt + 4 * (A 40 (x1.toInt + 44).toNat).toInt + 892).toNat) x4) ((x1.toInt + 4 * (A 40 (x1.toInt + 44).toNat).toInt + 893).toNat) x5) ((x1.toInt + 44).toNat) x_80 := by rw [hE_82, va_up_self, hE_66, va_up_self, hE_54, va_up_self, hE_42, va_up_self, hE_30, va_up_self]
    have hz_85 : (A_82 40 (x1.toInt + 44).toNat).toInt = (A 40 (x1.toInt + 44).toNat).toInt + 1 := by rw [eu_84, pk_us]; omega
    exact maV hQ hx hb hr hlk hP hS ⟨hT, FA, FF, FC, ⟨hz_85, fun h1 h2 h3 h9 => by rw [eu_84]; exact tO.tell hb0.1 (by omega) h1 h2 h3 h9⟩⟩ dX12_tell_103
set_option maxHeartbeats 4000000 in
set_option maxRecDepth 100000 in
theorem c_X12_doBid (l : Launch) (D : va_G) (K : zK) (hM : mK K) (f : Nat → Int32) (A : Nat → Nat → Int32) (hT : mT f A) (a0 : Nat) (ha0 : a0 ∈ zl K) (hk0 : zk K a0 = 11) (x1 : Int32) (x2 : Int32) (x3 : Int32) (x4 : Int32) (hp0 : zRow x1.toInt) : Met l yX12_doBid (zc yX12_doBid cX12_doBid 5 none) (rmd 0) (va_Pc [.ref a0, .int x1, .int x2, .int x3, .int x4] (zB D K (mV K f A))) (mQv D K (fun f' A' => mT f' A' ∧ (∀ k, k ∉ ([40] : List Nat) → A' k = A k) ∧ (∀ k, k ∉ ([] : List Nat) → f' k = f k) ∧ fC (A 40) (A' 40) x1.toInt ([(10, 13)] : List (Int × Int)))) 0 0 (zA K) := by
  refine zin (by decide) (Nat.le_of_ble_eq_true rfl) ?_
  intro p e s m args below meth c ls Q hQ C hr hlk hP hs hl
  have C : CallFix p m c cX12_doBid 5 s args zw RX12 := C
  obtain ⟨hx, hb, hml, hown, hts⟩ := id C
  have hO := hM.1
  have hS : va_S (zA K) s.heap s.heap [] := va_S.rf
  have FA : ∀ k, k ∉ ([40] : List Nat) → A k = A k := fun _ _ => rfl
  have FF : ∀ k, k ∉ ([] : List Nat) → f k = f k := fun _ _ => rfl
  have FC : fC (A 40) (A 40) x1.toInt ([(10, 13)] : List (Int × Int)) := fun _ _ _ => rfl
  have hl : lv_has ls 5 [(0, .ref a0), (1, .int x1), (2, .int x2), (3, .int x3), (4, .int x4)] := hl
  have hb0 := hp0.lin
  refine lv_aload_n hx hb dX12_doBid_0 rfl (lv_at hl 0 rfl) ?_
  refine mg_0 C hs hP ha0 hk0 wf_X12_8 dX12_doBid_1 ?_
  have hf_1 := hO.r (j := 0) ha0 hk0 (rfl : zX 11 0 = some (40, 47730))
  refine lv_iload_n hx hb dX12_doBid_4 rfl (lv_at hl 1 rfl) ?_
  refine lv_bipush (v := 10) hx hb dX12_doBid_5 (by decide) ?_
  refine lv_iadd hx hb dX12_doBid_7 ?_
  refine lv_topi (fun x_2 ex_2 => ?_)
  refine lv_iload_n hx hb dX12_doBid_8 rfl (lv_at hl 3 rfl) ?_
  have hi_hr_3 : zEq x_2.toInt (x1.toInt + 10) := by
    have g_4 := z_rng x1
    obtain ⟨f_2, l_2, u_2⟩ := z_add ex_2 rfl ti_10
    try replace f_2 : x_2.toInt = x1.toInt + 10 := by omega
    clear l_2 u_2
    show x_2.toInt = (x1.toInt + 10)
    omega
  have hl_hr_3 : (10 : Int) ≤ 10 ∧ 10 ≤ (10 : Int) := by decide
  have hid_hr_3 : (x1.toInt + 10) = x1.toInt + (10) := by simp only [Int.add_assoc, Int.add_sub_assoc]
  have hr_3 := z_cell (lo := 10) (hi := 19) hp0 hi_hr_3 hid_hr_3 hl_hr_3 (by decide)
  replace hid_hr_3 : zEq (x1.toInt + 10) (x1.toInt + (10)) := hid_hr_3
  have hin_5 : vp_in x_2 (zn K (zr K a0 0)) := vp_in_iff.mpr (by rw [(hf_1.2.2 (by decide))]; exact hr_3.in)
  refine mst_40 C hM hs hP hS hf_1.1 hT hf_1.2.1 hin_5 (tp_10 hr_3) dX12_doBid_9 (fun A_6 H locs hE_6 hT hP hS => ?_)
  have ep_7 : x_2.toNatClampNeg = (x1.toInt + 10).toNat := z_posE hi_hr_3
  rw [ep_7] at hE_6
  have FA := frA FA (frAu hE_6) (by decide)
  have FC := fC.tr FC (fC.st (b := x1.toInt) (lo := 10) (hi := 10) hE_6 hb0.1 (by decide) hid_hr_3 hl_hr_3) (by decide)
  refine lv_aload_n hx hb dX12_doBid_10 rfl (lv_at hl 0 rfl) ?_
  refine mg_0 C hs hP ha0 hk0 wf_X12_8 dX12_doBid_11 ?_
  refine lv_iload_n hx hb dX12_doBid_14 rfl (lv_at hl 1 rfl) ?_
  refine lv_bipush (v := 11) hx hb dX12_doBid_15 (by decide) ?_
  refine lv_iadd hx hb dX12_doBid_17 ?_
  refine lv_topi (fun x_8 ex_8 => ?_)
  refine lv_iload hx hb dX12_doBid_18 (lv_at hl 4 rfl) ?_
  have hi_hr_9 : zEq x_8.toInt (x1.toInt + 11) := by
    have g_10 := z_rng x1
    obtain ⟨f_8, l_8, u_8⟩ := z_add ex_8 rfl ti_11
    try replace f_8 : x_8.toInt = x1.toInt + 11 := by omega
    clear l_8 u_8
    show x_8.toInt = (x1.toInt + 11)
    omega
  have hl_hr_9 : (11 : Int) ≤ 11 ∧ 11 ≤ (11 : Int) := by decide
  have hid_hr_9 : (x1.toInt + 11) = x1.toInt + (11) := by simp only [Int.add_assoc, Int.add_sub_assoc]
  have hr_9 := z_cell (lo := 10) (hi := 19) hp0 hi_hr_9 hid_hr_9 hl_hr_9 (by decide)
  replace hid_hr_9 : zEq (x1.toInt + 11) (x1.toInt + (11)) := hid_hr_9
  have hin_11 : vp_in x_8 (zn K (zr K a0 0)) := vp_in_iff.mpr (by rw [(hf_1.2.2 (by decide))]; exact hr_9.in)
  refine mst_40 C hM hs hP hS hf_1.1 hT hf_1.2.1 hin_11 (tp_10 hr_9) dX12_doBid_20 (fun A_12 H locs hE_12 hT hP hS => ?_)
  have ep_13 : x_8.toNatClampNeg = (x1.toInt + 11).toNat := z_posE hi_hr_9
  rw [ep_13] at hE_12
  have FA := frA FA (frAu hE_12) (by decide)
  have FC := fC.tr FC (fC.st (b := x1.toInt) (lo := 11) (hi := 11) hE_12 hb0.1 (by decide) hid_hr_9 hl_hr_9) (by decide)
  refine lv_aload_n hx hb dX12_doBid_21 rfl (lv_at hl 0 rfl) ?_
  refine mg_0 C hs hP ha0 hk0 wf_X12_8 dX12_doBid_22 ?_
  refine lv_iload_n hx hb dX12_doBid_25 rfl (lv_at hl 1 rfl) ?_
  refine lv_bipush (v := 12) hx hb dX12_doBid_26 (by decide) ?_
  refine lv_iadd hx hb dX12_doBid_28 ?_
  refine lv_topi (fun x_14 ex_14 => ?_)
  refine lv_iload_n hx hb dX12_doBid_29 rfl (lv_at hl 2 rfl) ?_
  have hi_hr_15 : zEq x_14.toInt (x1.toInt + 12) := by
    have g_16 := z_rng x1
    obtain ⟨f_14, l_14, u_14⟩ := z_add ex_14 rfl ti_12
    try replace f_14 : x_14.toInt = x1.toInt + 12 := by omega
    clear l_14 u_14
    show x_14.toInt = (x1.toInt + 12)
    omega
  have hl_hr_15 : (12 : Int) ≤ 12 ∧ 12 ≤ (12 : Int) := by decide
  have hid_hr_15 : (x1.toInt + 12) = x1.toInt + (12) := by simp only [Int.add_assoc, Int.add_sub_assoc]
  have hr_15 := z_cell (lo := 10) (hi := 19) hp0 hi_hr_15 hid_hr_15 hl_hr_15 (by decide)
  replace hid_hr_15 : zEq (x1.toInt + 12) (x1.toInt + (12)) := hid_hr_15
  have hin_17 : vp_in x_14 (zn K (zr K a0 0)) := vp_in_iff.mpr (by rw [(hf_1.2.2 (by decide))]; exact hr_15.in)
  refine mst_40 C hM hs hP hS hf_1.1 hT hf_1.2.1 hin_17 (tp_10 hr_15) dX12_doBid_30 (fun A_18 H locs hE_18 hT hP hS => ?_)
  have ep_19 : x_14.toNatClampNeg = (x1.toInt + 12).toNat := z_posE hi_hr_15
  rw [ep_19] at hE_18
  have FA := frA FA (frAu hE_18) (by decide)
  have FC := fC.tr FC (fC.st (b := x1.toInt) (lo := 12) (hi := 12) hE_18 hb0.1 (by decide) hid_hr_15 hl_hr_15) (by decide)
  refine lv_aload_n hx hb dX12_doBid_31 rfl (lv_at hl 0 rfl) ?_
  refine mg_0 C hs hP ha0 hk0 wf_X12_8 dX12_doBid_32 ?_
  refine lv_iload_n hx hb dX12_doBid_35 rfl (lv_at hl 1 rfl) ?_
  refine lv_bipush (v := 13) hx hb dX12_doBid_36 (by decide) ?_
  refine lv_iadd hx hb dX12_doBid_38 ?_
  refine lv_topi (fun x_20 ex_20 => ?_)
  refine lv_iconst (v := 0) hx hb dX12_doBid_39 (by decide) ?_
  have hi_hr_21 : zEq x_20.toInt (x1.toInt + 13) := by
    have g_22 := z_rng x1
    obtain ⟨f_20, l_20, u_20⟩ := z_add ex_20 rfl ti_13
    try replace f_20 : x_20.toInt = x1.toInt + 13 := by omega
    clear l_20 u_20
    show x_20.toInt = (x1.toInt + 13)
    omega
  have hl_hr_21 : (13 : Int) ≤ 13 ∧ 13 ≤ (13 : Int) := by decide
  have hid_hr_21 : (x1.toInt + 13) = x1.toInt + (13) := by simp only [Int.add_assoc, Int.add_sub_assoc]
  have hr_21 := z_cell (lo := 10) (hi := 19) hp0 hi_hr_21 hid_hr_21 hl_hr_21 (by decide)
  replace hid_hr_21 : zEq (x1.toInt + 13) (x1.toInt + (13)) := hid_hr_21
  have hin_23 : vp_in x_20 (zn K (zr K a0 0)) := vp_in_iff.mpr (by rw [(hf_1.2.2 (by decide))]; exact hr_21.in)
  refine mst_40 C hM hs hP hS hf_1.1 hT hf_1.2.1 hin_23 (tp_10 hr_21) dX12_doBid_40 (fun A_24 H locs hE_24 hT hP hS => ?_)
  have ep_25 : x_20.toNatClampNeg = (x1.toInt + 13).toNat := z_posE hi_hr_21
  rw [ep_25] at hE_24
  have FA := frA FA (frAu hE_24) (by decide)
  have FC := fC.tr FC (fC.st (b := x1.toInt) (lo := 13) (hi := 13) hE_24 hb0.1 (by decide) hid_hr_21 hl_hr_21) (by decide)
  exact maV hQ hx hb hr hlk hP hS ⟨hT, FA, FF, FC⟩ dX12_doBid_41
set_option maxHeartbeats 4000000 in
set_option maxRecDepth 100000 in
theorem c_X12_putRight (l : Launch) (D : va_G) (K : zK) (hM : mK K) (f : Nat → Int32) (A : Nat → Nat → Int32) (hT : mT f A) (a0 : Nat) (ha0 : a0 ∈ zl K) (hk0 : zk K a0 = 11) (x1 : Int32) (x2 : Int32) (x3 : Int32) (hp0 : zRow x1.toInt) (hp1 : 0 ≤ x2.toInt ∧ x2.toInt ≤ 59) (hp2 : 0 ≤ x3.toInt ∧ x3.toInt ≤ 1) : Met l yX12_putRight (zc yX12_putRight cX12_putRight 6 none) (rmd 0) (va_Pc [.ref a0, .int x1, .int x2, .int x3] (zB D K (mV K f A))) (mQv D K (fun f' A' => mT f' A' ∧ (∀ k, k ∉ ([40] : List Nat) → A' k = A k) ∧ (∀ k, k ∉ ([] : List Nat) → f' k = f k) ∧ fC (A 40) (A' 40) x1.toInt ([(15, 18), (110, 169), (530, 589)] : List (Int × Int)) ∧ wz (A 40) (A' 40) x1.toInt)) 0 0 (zA K) := by
  refine zin (by decide) (Nat.le_of_ble_eq_true rfl) ?_
  intro p e s m args below meth c ls Q hQ C hr hlk hP hs hl
  have C : CallFix p m c cX12_putRight 6 s args zw RX12 := C
  obtain ⟨hx, hb, hml, hown, hts⟩ := id C
  have hO := hM.1
  have hS : va_S (zA K) s.heap s.heap [] := va_S.rf
  have FA : ∀ k, k ∉ ([40] : List Nat) → A k = A k := fun _ _ => rfl
  have FF : ∀ k, k ∉ ([] : List Nat) → f k = f k := fun _ _ => rfl
  have FC : fC (A 40) (A 40) x1.toInt ([(15, 18), (110, 169), (530, 589)] : List (Int × Int)) := fun _ _ _ => rfl
  have WZ : wz (A 40) (A 40) x1.toInt := wz.rf
  have hl : lv_has ls 6 [(0, .ref a0), (1, .int x1), (2, .int x2), (3, .int x3)] := hl
  have hb0 := hp0.lin
  refine lv_aload_n hx hb dX12_putRight_0 rfl (lv_at hl 0 rfl) ?_
  refine mg_0 C hs hP ha0 hk0 wf_X12_8 dX12_putRight_1 ?_
  have hf_1 := hO.r (j := 0) ha0 hk0 (rfl : zX 11 0 = some (40, 47730))
  refine lv_iload_n hx hb dX12_putRight_4 rfl (lv_at hl 1 rfl) ?_
  refine lv_sipush (v := 530) hx hb dX12_putRight_5 (by decide) ?_
  refine lv_iadd hx hb dX12_putRight_8 ?_
  refine lv_topi (fun x_2 ex_2 => ?_)
  refine lv_iload_n hx hb dX12_putRight_9 rfl (lv_at hl 2 rfl) ?_
  refine lv_iadd hx hb dX12_putRight_10 ?_
  refine lv_topi (fun x_3 ex_3 => ?_)
  have hi_hr_4 : zEq x_3.toInt (x1.toInt + x2.toInt + 530) := by
    have g_5 := z_rng x1
    obtain ⟨f_2, l_2, u_2⟩ := z_add ex_2 rfl ti_530
    try replace f_2 : x_2.toInt = x1.toInt + 530 := by omega
    clear l_2 u_2
    have g_6 := z_rng x2
    obtain ⟨f_3, l_3, u_3⟩ := z_add ex_3 rfl rfl
    try replace f_3 : x_3.toInt = x_2.toInt + x2.toInt := by omega
    clear l_3 u_3
    show x_3.toInt = (x1.toInt + x2.toInt + 530)
    omega
  have hl_hr_4 : 530 ≤ x2.toInt + 530 ∧ x2.toInt + 530 ≤ 589 := by
    have g_7 := z_rng x1
    have g_8 := z_rng x2
    omega
  have hid_hr_4 : (x1.toInt + x2.toInt + 530) = x1.toInt + (x2.toInt + 530) := by simp only [Int.add_assoc, Int.add_sub_assoc]
  have hr_4 := z_cell (lo := 470) (hi := 769) hp0 hi_hr_4 hid_hr_4 hl_hr_4 (by decide)
  replace hid_hr_4 : zEq (x1.toInt + x2.toInt + 530) (x1.toInt + (x2.toInt + 530)) := hid_hr_4
  have hin_9 : vp_in x_3 (zn K (zr K a0 0)) := vp_in_iff.mpr (by rw [(hf_1.2.2 (by decide))]; exact hr_4.in)
  refine mld_40 C hs hP hf_1.1 hf_1.2.1 hin_9 dX12_putRight_11 ?_
  have ep_10 : x_3.toNatClampNeg = (x1.toInt + x2.toInt + 530).toNat := z_posE hi_hr_4
  rw [ep_10]
  refine lv_iload_n hx hb dX12_putRight_12 rfl (lv_at hl 3 rfl) ?_
  refine bi_eq (tgt := 17) hx hb rfl rfl dX12_putRight_13 (by decide) (fun c_11 => ?_) (fun c_11 => ?_)
  · skip
    refine lv_iconst (v := 1) hx hb dX12_putRight_17 (by decide) ?_
    refine lv_iload_n hx hb dX12_putRight_18 rfl (lv_at hl 3 rfl) ?_
    refine lv_isub hx hb dX12_putRight_19 ?_
    refine lv_topi (fun x_12 ex_12 => ?_)
    refine lv_istore (lv' := [(4, .int x_12), (0, .ref a0), (1, .int x1), (2, .int x2), (3, .int x3)]) hx hb dX12_putRight_20 hl (by decide) rfl (fun ls hl => ?_)
    refine lv_aload_n hx hb dX12_putRight_22 rfl (lv_at hl 1 rfl) ?_
    refine mg_0 C hs hP ha0 hk0 wf_X12_8 dX12_putRight_23 ?_
    refine lv_iload_n hx hb dX12_putRight_26 rfl (lv_at hl 2 rfl) ?_
    refine lv_sipush (v := 530) hx hb dX12_putRight_27 (by decide) ?_
    refine lv_iadd hx hb dX12_putRight_30 ?_
    refine lv_topi (fun x_13 ex_13 => ?_)
    refine lv_iload_n hx hb dX12_putRight_31 rfl (lv_at hl 3 rfl) ?_
    refine lv_iadd hx hb dX12_putRight_32 ?_
    refine lv_topi (fun x_14 ex_14 => ?_)
    refine lv_iload hx hb dX12_putRight_33 (lv_at hl 0 rfl) ?_
    have hi_hr_15 : zEq x_14.toInt (x1.toInt + x2.toInt + 530) := by
      have g_16 := z_rng x1
      obtain ⟨f_13, l_13, u_13⟩ := z_add ex_13 rfl ti_530
      try replace f_13 : x_13.toInt = x1.toInt + 530 := by omega
      clear l_13 u_13
      have g_17 := z_rng x2
      obtain ⟨f_14, l_14, u_14⟩ := z_add ex_14 rfl rfl
      try replace f_14 : x_14.toInt = x_13.toInt + x2.toInt := by omega
      clear l_14 u_14
      show x_14.toInt = (x1.toInt + x2.toInt + 530)
      omega
    have hl_hr_15 : 530 ≤ x2.toInt + 530 ∧ x2.toInt + 530 ≤ 589 := by
      have g_18 := z_rng x1
      have g_19 := z_rng x2
      omega
    have hid_hr_15 : (x1.toInt + x2.toInt + 530) = x1.toInt + (x2.toInt + 530) := by simp only [Int.add_assoc, Int.add_sub_assoc]
    have hr_15 := z_cell (lo := 470) (hi := 769) hp0 hi_hr_15 hid_hr_15 hl_hr_15 (by decide)
    replace hid_hr_15 : zEq (x1.toInt + x2.toInt + 530) (x1.toInt + (x2.toInt + 530)) := hid_hr_15
    have hin_20 : vp_in x_14 (zn K (zr K a0 0)) := vp_in_iff.mpr (by rw [(hf_1.2.2 (by decide))]; exact hr_15.in)
    refine mst_40 C hM hs hP hS hf_1.1 hT hf_1.2.1 hin_20 (tp_470 hr_15) dX12_putRight_35 (fun A_21 H locs hE_21 hT hP hS => ?_)
    have ep_22 : x_14.toNatClampNeg = (x1.toInt + x2.toInt + 530).toNat := z_posE hi_hr_15
    rw [ep_22] at hE_21
    have FA := frA FA (frAu hE_21) (by decide)
    have FC := fC.tr FC (fC.st (b := x1.toInt) (lo := 530) (hi := 589) hE_21 hb0.1 (by decide) hid_hr_15 hl_hr_15) (by decide)
    have WZ := wz.st WZ hE_21 (Or.inr ⟨by omega, by omega, Or.inr (by omega)⟩)
    refine lv_aload_n hx hb dX12_putRight_36 rfl (lv_at hl 1 rfl) ?_
    refine mg_0 C hs hP ha0 hk0 wf_X12_8 dX12_putRight_37 ?_
    refine lv_iload_n hx hb dX12_putRight_40 rfl (lv_at hl 2 rfl) ?_
    refine lv_bipush (v := 15) hx hb dX12_putRight_41 (by decide) ?_
    refine lv_iadd hx hb dX12_putRight_43 ?_
    refine lv_topi (fun x_23 ex_23 => ?_)
    refine lv_iload_n hx hb dX12_putRight_44 rfl (lv_at hl 4 rfl) ?_
    refine lv_iadd hx hb dX12_putRight_45 ?_
    refine lv_topi (fun x_24 ex_24 => ?_)
    refine lv_dup2_11 hx hb dX12_putRight_46 rfl rfl ?_
    have hi_hr_25 : zEq x_24.toInt (x1.toInt + x3.toInt + 15) := by
      have g_26 := z_rng x1
      obtain ⟨f_23, l_23, u_23⟩ := z_add ex_23 rfl ti_15
      try replace f_23 : x_23.toInt = x1.toInt + 15 := by omega
      clear l_23 u_23
      have g_27 := z_rng x3
      obtain ⟨f_24, l_24, u_24⟩ := z_add ex_24 rfl rfl
      try replace f_24 : x_24.toInt = x_23.toInt + x3.toInt := by omega
      clear l_24 u_24
      show x_24.toInt = (x1.toInt + x3.toInt + 15)
      omega
    have hl_hr_25 : 15 ≤ x3.toInt + 15 ∧ x3.toInt + 15 ≤ 16 := by
      have g_28 := z_rng x1
      have g_29 := z_rng x3
      omega
    have hid_hr_25 : (x1.toInt + x3.toInt + 15) = x1.toInt + (x3.toInt + 15) := by simp only [Int.add_assoc, Int.add_sub_assoc]
    have hr_25 := z_cell (lo := 10) (hi := 19) hp0 hi_hr_25 hid_hr_25 hl_hr_25 (by decide)
    replace hid_hr_25 : zEq (x1.toInt + x3.toInt + 15) (x1.toInt + (x3.toInt + 15)) := hid_hr_25
    have hin_30 : vp_in x_24 (zn K (zr K a0 0)) := vp_in_iff.mpr (by rw [(hf_1.2.2 (by decide))]; exact hr_25.in)
    refine mld_40 C hs hP hf_1.1 hf_1.2.1 hin_30 dX12_putRight_47 ?_
    have ep_31 : x_24.toNatClampNeg = (x1.toInt + x3.toInt + 15).toNat := z_posE hi_hr_25
    rw [ep_31]
    have g_33 := z_rng x1
    obtain ⟨f_23, l_23, u_23⟩ := z_add ex_23 rfl ti_15
    try replace f_23 : x_23.toInt = x1.toInt + 15 := by omega
    clear l_23 u_23
    have g_34 := z_rng x3
    obtain ⟨f_24, l_24, u_24⟩ := z_add ex_24 rfl rfl
    try replace f_24 : x_24.toInt = x_23.toInt + x3.toInt := by omega
    clear l_24 u_24
    obtain ⟨f_13, l_13, u_13⟩ := z_add ex_13 rfl ti_530
    try replace f_13 : x_13.toInt = x1.toInt + 530 := by omega
    clear l_13 u_13
    have g_35 := z_rng x2
    obtain ⟨f_14, l_14, u_14⟩ := z_add ex_14 rfl rfl
    try replace f_14 : x_14.toInt = x_13.toInt + x2.toInt := by omega
    clear l_14 u_14
    have hn_32 : (x1.toInt + x3.toInt + 15).toNat ≠ (x1.toInt + x2.toInt + 530).toNat := by omega
    have ev_36 : A_21 40 (x1.toInt + x3.toInt + 15).toNat = A 40 (x1.toInt + x3.toInt + 15).toNat := by rw [hE_21, va_up_self, pk_un hn_32]
    rw [ev_36]
    refine lv_iconst (v := 1) hx hb dX12_putRight_48 (by decide) ?_
    refine lv_isub hx hb dX12_putRight_49 ?_
    refine lv_topi (fun x_37 ex_37 => ?_)
    have hin_38 : vp_in x_24 (zn K (zr K a0 0)) := vp_in_iff.mpr (by rw [(hf_1.2.2 (by decide))]; exact hr_25.in)
    refine mst_40 C hM hs hP hS hf_1.1 hT hf_1.2.1 hin_38 (tp_10 hr_25) dX12_putRight_50 (fun A_39 H locs hE_39 hT hP hS => ?_)
    have ep_40 : x_24.toNatClampNeg = (x1.toInt + x3.toInt + 15).toNat := z_posE hi_hr_25
    rw [ep_40] at hE_39
    have FA := frA FA (frAu hE_39) (by decide)
    have FC := fC.tr FC (fC.st (b := x1.toInt) (lo := 15) (hi := 16) hE_39 hb0.1 (by decide) hid_hr_25 hl_hr_25) (by decide)
    have WZ := wz.st WZ hE_39 (Or.inr ⟨by omega, by omega, Or.inl (by omega)⟩)
    refine lv_aload_n hx hb dX12_putRight_51 rfl (lv_at hl 1 rfl) ?_
    refine mg_0 C hs hP ha0 hk0 wf_X12_8 dX12_putRight_52 ?_
    refine lv_iload_n hx hb dX12_putRight_55 rfl (lv_at hl 2 rfl) ?_
    refine lv_bipush (v := 15) hx hb dX12_putRight_56 (by decide) ?_
    refine lv_iadd hx hb dX12_putRight_58 ?_
    refine lv_topi (fun x_41 ex_41 => ?_)
    refine lv_iload hx hb dX12_putRight_59 (lv_at hl 0 rfl) ?_
    refine lv_iadd hx hb dX12_putRight_61 ?_
    refine lv_topi (fun x_42 ex_42 => ?_)
    refine lv_dup2_11 hx hb dX12_putRight_62 rfl rfl ?_
    have hi_hr_43 : zEq x_42.toInt (x1.toInt + -1 * x3.toInt + 16) := by
      obtain ⟨f_41, l_41, u_41⟩ := z_add ex_41 rfl ti_15
      try replace f_41 : x_41.toInt = x1.toInt + 15 := by omega
      clear l_41 u_41
      obtain ⟨f_12, l_12, u_12⟩ := z_sub ex_12 ti_1 rfl
      try replace f_12 : x_12.toInt = 1 - x3.toInt := by omega
      clear l_12 u_12
      obtain ⟨f_42, l_42, u_42⟩ := z_add ex_42 rfl rfl
      try replace f_42 : x_42.toInt = x_41.toInt + x_12.toInt := by omega
      clear l_42 u_42
      show x_42.toInt = (x1.toInt + -1 * x3.toInt + 16)
      omega
    have hl_hr_43 : 15 ≤ -1 * x3.toInt + 16 ∧ -1 * x3.toInt + 16 ≤ 16 := by
      omega
    have hid_hr_43 : (x1.toInt + -1 * x3.toInt + 16) = x1.toInt + (-1 * x3.toInt + 16) := by simp only [Int.add_assoc, Int.add_sub_assoc]
    have hr_43 := z_cell (lo := 10) (hi := 19) hp0 hi_hr_43 hid_hr_43 hl_hr_43 (by decide)
    replace hid_hr_43 : zEq (x1.toInt + -1 * x3.toInt + 16) (x1.toInt + (-1 * x3.toInt + 16)) := hid_hr_43
    have hin_44 : vp_in x_42 (zn K (zr K a0 0)) := vp_in_iff.mpr (by rw [(hf_1.2.2 (by decide))]; exact hr_43.in)
    refine mld_40 C hs hP hf_1.1 hf_1.2.1 hin_44 dX12_putRight_63 ?_
    have ep_45 : x_42.toNatClampNeg = (x1.toInt + -1 * x3.toInt + 16).toNat := z_posE hi_hr_43
    rw [ep_45]
    refine lv_iconst (v := 1) hx hb dX12_putRight_64 (by decide) ?_
    refine lv_iadd hx hb dX12_putRight_65 ?_
    refine lv_topi (fun x_46 ex_46 => ?_)
    have hin_47 : vp_in x_42 (zn K (zr K a0 0)) := vp_in_iff.mpr (by rw [(hf_1.2.2 (by decide))]; exact hr_43.in)
    refine mst_40 C hM hs hP hS hf_1.1 hT hf_1.2.1 hin_47 (tp_10 hr_43) dX12_putRight_66 (fun A_48 H locs hE_48 hT hP hS => ?_)
    have ep_49 : x_42.toNatClampNeg = (x1.toInt + -1 * x3.toInt + 16).toNat := z_posE hi_hr_43
    rw [ep_49] at hE_48
    have FA := frA FA (frAu hE_48) (by decide)
    have FC := fC.tr FC (fC.st (b := x1.toInt) (lo := 15) (hi := 16) hE_48 hb0.1 (by decide) hid_hr_43 hl_hr_43) (by decide)
    have WZ := wz.st WZ hE_48 (Or.inr ⟨by omega, by omega, Or.inl (by omega)⟩)
    refine lv_aload_n hx hb dX12_putRight_67 rfl (lv_at hl 1 rfl) ?_
    refine mg_0 C hs hP ha0 hk0 wf_X12_8 dX12_putRight_68 ?_
    refine lv_iload_n hx hb dX12_putRight_71 rfl (lv_at hl 2 rfl) ?_
    refine lv_bipush (v := 17) hx hb dX12_putRight_72 (by decide) ?_
    refine lv_iadd hx hb dX12_putRight_74 ?_
    refine lv_topi (fun x_50 ex_50 => ?_)
    refine lv_iload_n hx hb dX12_putRight_75 rfl (lv_at hl 4 rfl) ?_
    refine lv_iadd hx hb dX12_putRight_76 ?_
    refine lv_topi (fun x_51 ex_51 => ?_)
    refine lv_dup2_11 hx hb dX12_putRight_77 rfl rfl ?_
    have hi_hr_52 : zEq x_51.toInt (x1.toInt + x3.toInt + 17) := by
      obtain ⟨f_50, l_50, u_50⟩ := z_add ex_50 rfl ti_17
      try replace f_50 : x_50.toInt = x1.toInt + 17 := by omega
      clear l_50 u_50
      obtain ⟨f_51, l_51, u_51⟩ := z_add ex_51 rfl rfl
      try replace f_51 : x_51.toInt = x_50.toInt + x3.toInt := by omega
      clear l_51 u_51
      show x_51.toInt = (x1.toInt + x3.toInt + 17)
      omega
    have hl_hr_52 : 17 ≤ x3.toInt + 17 ∧ x3.toInt + 17 ≤ 18 := by
      omega
    have hid_hr_52 : (x1.toInt + x3.toInt + 17) = x1.toInt + (x3.toInt + 17) := by simp only [Int.add_assoc, Int.add_sub_assoc]
    have hr_52 := z_cell (lo := 10) (hi := 19) hp0 hi_hr_52 hid_hr_52 hl_hr_52 (by decide)
    replace hid_hr_52 : zEq (x1.toInt + x3.toInt + 17) (x1.toInt + (x3.toInt + 17)) := hid_hr_52
    have hin_53 : vp_in x_51 (zn K (zr K a0 0)) := vp_in_iff.mpr (by rw [(hf_1.2.2 (by decide))]; exact hr_52.in)
    refine mld_40 C hs hP hf_1.1 hf_1.2.1 hin_53 dX12_putRight_78 ?_
    have ep_54 : x_51.toNatClampNeg = (x1.toInt + x3.toInt + 17).toNat := z_posE hi_hr_52
    rw [ep_54]
    refine lv_aload_n hx hb dX12_putRight_79 rfl (lv_at hl 1 rfl) ?_
    refine mg_0 C hs hP ha0 hk0 wf_X12_8 dX12_putRight_80 ?_
    refine lv_iload_n hx hb dX12_putRight_83 rfl (lv_at hl 2 rfl) ?_
    refine lv_sipush (v := 590) hx hb dX12_putRight_84 (by decide) ?_
    refine lv_iadd hx hb dX12_putRight_87 ?_
    refine lv_topi (fun x_55 ex_55 => ?_)
    refine lv_iload_n hx hb dX12_putRight_88 rfl (lv_at hl 3 rfl) ?_
    refine lv_iadd hx hb dX12_putRight_89 ?_
    refine lv_topi (fun x_56 ex_56 => ?_)
    have hi_hr_57 : zEq x_56.toInt (x1.toInt + x2.toInt + 590) := by
      obtain ⟨f_55, l_55, u_55⟩ := z_add ex_55 rfl ti_590
      try replace f_55 : x_55.toInt = x1.toInt + 590 := by omega
      clear l_55 u_55
      obtain ⟨f_56, l_56, u_56⟩ := z_add ex_56 rfl rfl
      try replace f_56 : x_56.toInt = x_55.toInt + x2.toInt := by omega
      clear l_56 u_56
      show x_56.toInt = (x1.toInt + x2.toInt + 590)
      omega
    have hl_hr_57 : 590 ≤ x2.toInt + 590 ∧ x2.toInt + 590 ≤ 649 := by
      omega
    have hid_hr_57 : (x1.toInt + x2.toInt + 590) = x1.toInt + (x2.toInt + 590) := by simp only [Int.add_assoc, Int.add_sub_assoc]
    have hr_57 := z_cell (lo := 470) (hi := 769) hp0 hi_hr_57 hid_hr_57 hl_hr_57 (by decide)
    replace hid_hr_57 : zEq (x1.toInt + x2.toInt + 590) (x1.toInt + (x2.toInt + 590)) := hid_hr_57
    have hin_58 : vp_in x_56 (zn K (zr K a0 0)) := vp_in_iff.mpr (by rw [(hf_1.2.2 (by decide))]; exact hr_57.in)
    refine mld_40 C hs hP hf_1.1 hf_1.2.1 hin_58 dX12_putRight_90 ?_
    have ep_59 : x_56.toNatClampNeg = (x1.toInt + x2.toInt + 590).toNat := z_posE hi_hr_57
    rw [ep_59]
    obtain ⟨f_55, l_55, u_55⟩ := z_add ex_55 rfl ti_590
    try replace f_55 : x_55.toInt = x1.toInt + 590 := by omega
    clear l_55 u_55
    obtain ⟨f_56, l_56, u_56⟩ := z_add ex_56 rfl rfl
    try replace f_56 : x_56.toInt = x_55.toInt + x2.toInt := by omega
    clear l_56 u_56
    obtain ⟨f_41, l_41, u_41⟩ := z_add ex_41 rfl ti_15
    try replace f_41 : x_41.toInt = x1.toInt + 15 := by omega
    clear l_41 u_41
    obtain ⟨f_12, l_12, u_12⟩ := z_sub ex_12 ti_1 rfl
    try replace f_12 : x_12.toInt = 1 - x3.toInt := by omega
    clear l_12 u_12
    obtain ⟨f_42, l_42, u_42⟩ := z_add ex_42 rfl rfl
    try replace f_42 : x_42.toInt = x_41.toInt + x_12.toInt := by omega
    clear l_42 u_42
    have hn_60 : (x1.toInt + x2.toInt + 590).toNat ≠ (x1.toInt + -1 * x3.toInt + 16).toNat := by omega
    have hn_61 : (x1.toInt + x2.toInt + 590).toNat ≠ (x1.toInt + x3.toInt + 15).toNat := by omega
    have hn_62 : (x1.toInt + x2.toInt + 590).toNat ≠ (x1.toInt + x2.toInt + 530).toNat := by omega
    have ev_63 : A_48 40 (x1.toInt + x2.toInt + 590).toNat = A 40 (x1.toInt + x2.toInt + 590).toNat := by rw [hE_48, va_up_self, pk_un hn_60, hE_39, va_up_self, pk_un hn_61, hE_21, va_up_self, pk_un hn_62]
    rw [ev_63]
    refine lv_isub hx hb dX12_putRight_91 ?_
    refine lv_topi (fun x_64 ex_64 => ?_)
    have hin_65 : vp_in x_51 (zn K (zr K a0 0)) := vp_in_iff.mpr (by rw [(hf_1.2.2 (by decide))]; exact hr_52.in)
    refine mst_40 C hM hs hP hS hf_1.1 hT hf_1.2.1 hin_65 (tp_10 hr_52) dX12_putRight_92 (fun A_66 H locs hE_66 hT hP hS => ?_)
    have ep_67 : x_51.toNatClampNeg = (x1.toInt + x3.toInt + 17).toNat := z_posE hi_hr_52
    rw [ep_67] at hE_66
    have FA := frA FA (frAu hE_66) (by decide)
    have FC := fC.tr FC (fC.st (b := x1.toInt) (lo := 17) (hi := 18) hE_66 hb0.1 (by decide) hid_hr_52 hl_hr_52) (by decide)
    have WZ := wz.st WZ hE_66 (Or.inr ⟨by omega, by omega, Or.inl (by omega)⟩)
    refine lv_aload_n hx hb dX12_putRight_93 rfl (lv_at hl 1 rfl) ?_
    refine mg_0 C hs hP ha0 hk0 wf_X12_8 dX12_putRight_94 ?_
    refine lv_iload_n hx hb dX12_putRight_97 rfl (lv_at hl 2 rfl) ?_
    refine lv_bipush (v := 17) hx hb dX12_putRight_98 (by decide) ?_
    refine lv_iadd hx hb dX12_putRight_100 ?_
    refine lv_topi (fun x_68 ex_68 => ?_)
    refine lv_iload hx hb dX12_putRight_101 (lv_at hl 0 rfl) ?_
    refine lv_iadd hx hb dX12_putRight_103 ?_
    refine lv_topi (fun x_69 ex_69 => ?_)
    refine lv_dup2_11 hx hb dX12_putRight_104 rfl rfl ?_
    have hi_hr_70 : zEq x_69.toInt (x1.toInt + -1 * x3.toInt + 18) := by
      obtain ⟨f_68, l_68, u_68⟩ := z_add ex_68 rfl ti_17
      try replace f_68 : x_68.toInt = x1.toInt + 17 := by omega
      clear l_68 u_68
      obtain ⟨f_69, l_69, u_69⟩ := z_add ex_69 rfl rfl
      try replace f_69 : x_69.toInt = x_68.toInt + x_12.toInt := by omega
      clear l_69 u_69
      show x_69.toInt = (x1.toInt + -1 * x3.toInt + 18)
      omega
    have hl_hr_70 : 17 ≤ -1 * x3.toInt + 18 ∧ -1 * x3.toInt + 18 ≤ 18 := by
      omega
    have hid_hr_70 : (x1.toInt + -1 * x3.toInt + 18) = x1.toInt + (-1 * x3.toInt + 18) := by simp only [Int.add_assoc, Int.add_sub_assoc]
    have hr_70 := z_cell (lo := 10) (hi := 19) hp0 hi_hr_70 hid_hr_70 hl_hr_70 (by decide)
    replace hid_hr_70 : zEq (x1.toInt + -1 * x3.toInt + 18) (x1.toInt + (-1 * x3.toInt + 18)) := hid_hr_70
    have hin_71 : vp_in x_69 (zn K (zr K a0 0)) := vp_in_iff.mpr (by rw [(hf_1.2.2 (by decide))]; exact hr_70.in)
    refine mld_40 C hs hP hf_1.1 hf_1.2.1 hin_71 dX12_putRight_105 ?_
    have ep_72 : x_69.toNatClampNeg = (x1.toInt + -1 * x3.toInt + 18).toNat := z_posE hi_hr_70
    rw [ep_72]
    refine lv_aload_n hx hb dX12_putRight_106 rfl (lv_at hl 1 rfl) ?_
    refine mg_0 C hs hP ha0 hk0 wf_X12_8 dX12_putRight_107 ?_
    refine lv_iload_n hx hb dX12_putRight_110 rfl (lv_at hl 2 rfl) ?_
    refine lv_sipush (v := 590) hx hb dX12_putRight_111 (by decide) ?_
    refine lv_iadd hx hb dX12_putRight_114 ?_
    refine lv_topi (fun x_73 ex_73 => ?_)
    refine lv_iload_n hx hb dX12_putRight_115 rfl (lv_at hl 3 rfl) ?_
    refine lv_iadd hx hb dX12_putRight_116 ?_
    refine lv_topi (fun x_74 ex_74 => ?_)
    have hi_hr_75 : zEq x_74.toInt (x1.toInt + x2.toInt + 590) := by
      obtain ⟨f_73, l_73, u_73⟩ := z_add ex_73 rfl ti_590
      try replace f_73 : x_73.toInt = x1.toInt + 590 := by omega
      clear l_73 u_73
      obtain ⟨f_74, l_74, u_74⟩ := z_add ex_74 rfl rfl
      try replace f_74 : x_74.toInt = x_73.toInt + x2.toInt := by omega
      clear l_74 u_74
      show x_74.toInt = (x1.toInt + x2.toInt + 590)
      omega
    have hl_hr_75 : 590 ≤ x2.toInt + 590 ∧ x2.toInt + 590 ≤ 649 := by
      omega
    have hid_hr_75 : (x1.toInt + x2.toInt + 590) = x1.toInt + (x2.toInt + 590) := by simp only [Int.add_assoc, Int.add_sub_assoc]
    have hr_75 := z_cell (lo := 470) (hi := 769) hp0 hi_hr_75 hid_hr_75 hl_hr_75 (by decide)
    replace hid_hr_75 : zEq (x1.toInt + x2.toInt + 590) (x1.toInt + (x2.toInt + 590)) := hid_hr_75
    have hin_76 : vp_in x_74 (zn K (zr K a0 0)) := vp_in_iff.mpr (by rw [(hf_1.2.2 (by decide))]; exact hr_75.in)
    refine mld_40 C hs hP hf_1.1 hf_1.2.1 hin_76 dX12_putRight_117 ?_
    have ep_77 : x_74.toNatClampNeg = (x1.toInt + x2.toInt + 590).toNat := z_posE hi_hr_75
    rw [ep_77]
    obtain ⟨f_73, l_73, u_73⟩ := z_add ex_73 rfl ti_590
    try replace f_73 : x_73.toInt = x1.toInt + 590 := by omega
    clear l_73 u_73
    obtain ⟨f_74, l_74, u_74⟩ := z_add ex_74 rfl rfl
    try replace f_74 : x_74.toInt = x_73.toInt + x2.toInt := by omega
    clear l_74 u_74
    obtain ⟨f_50, l_50, u_50⟩ := z_add ex_50 rfl ti_17
    try replace f_50 : x_50.toInt = x1.toInt + 17 := by omega
    clear l_50 u_50
    obtain ⟨f_51, l_51, u_51⟩ := z_add ex_51 rfl rfl
    try replace f_51 : x_51.toInt = x_50.toInt + x3.toInt := by omega
    clear l_51 u_51
    have hn_78 : (x1.toInt + x2.toInt + 590).toNat ≠ (x1.toInt + x3.toInt + 17).toNat := by omega
    have hn_79 : (x1.toInt + x2.toInt + 590).toNat ≠ (x1.toInt + -1 * x3.toInt + 16).toNat := by omega
    have hn_80 : (x1.toInt + x2.toInt + 590).toNat ≠ (x1.toInt + x3.toInt + 15).toNat := by omega
    have hn_81 : (x1.toInt + x2.toInt + 590).toNat ≠ (x1.toInt + x2.toInt + 530).toNat := by omega
    have ev_82 : A_66 40 (x1.toInt + x2.toInt + 590).toNat = A 40 (x1.toInt + x2.toInt + 590).toNat := by rw [hE_66, va_up_self, pk_un hn_78, hE_48, va_up_self, pk_un hn_79, hE_39, va_up_self, pk_un hn_80, hE_21, va_up_self, pk_un hn_81]
    rw [ev_82]
    refine lv_iadd hx hb dX12_putRight_118 ?_
    refine lv_topi (fun x_83 ex_83 => ?_)
    have hin_84 : vp_in x_69 (zn K (zr K a0 0)) := vp_in_iff.mpr (by rw [(hf_1.2.2 (by decide))]; exact hr_70.in)
    refine mst_40 C hM hs hP hS hf_1.1 hT hf_1.2.1 hin_84 (tp_10 hr_70) dX12_putRight_119 (fun A_85 H locs hE_85 hT hP hS => ?_)
    have ep_86 : x_69.toNatClampNeg = (x1.toInt + -1 * x3.toInt + 18).toNat := z_posE hi_hr_70
    rw [ep_86] at hE_85
    have FA := frA FA (frAu hE_85) (by decide)
    have FC := fC.tr FC (fC.st (b := x1.toInt) (lo := 17) (hi := 18) hE_85 hb0.1 (by decide) hid_hr_70 hl_hr_70) (by decide)
    have WZ := wz.st WZ hE_85 (Or.inr ⟨by omega, by omega, Or.inl (by omega)⟩)
    refine lv_iconst (v := 0) hx hb dX12_putRight_120 (by decide) ?_
    refine lv_istore (lv' := [(5, .int 0), (4, .int x_12), (0, .ref a0), (1, .int x1), (2, .int x2), (3, .int x3)]) hx hb dX12_putRight_121 hl (by decide) rfl (fun ls hl => ?_)
    have L_123_88 : ∀ (n_88 : Nat) (A_89 : Nat → Nat → Int32) (H : Heap) (locs : List Loc) (y_87 : Int32) (ls : Array Slot), (2147483648 - y_87.toInt).toNat < n_88 → 0 ≤ y_87.toInt → (∀ k, k ∉ ([40] : List Nat) → A_89 k = A k) → fC (A 40) (A_89 40) x1.toInt ([(15, 18), (110, 169), (530, 589)] : List (Int × Int)) → wz (A 40) (A_89 40) x1.toInt → mT f A_89 → va_P D vwCl (zW K (mV K f A_89)) H → va_S (zA K) s.heap H locs → lv_has ls 6 [(5, .int y_87), (4, .int x_12), (0, .ref a0), (1, .int x1), (2, .int x2), (3, .int x3)] → W p l e (rmd 0) s m args below meth c H locs 0 0 Q (F0 m 123 ls []) := by
      intro n_88
      induction n_88 with
      | zero => intro A_89 H locs y_87 ls hm_88; exact absurd hm_88 (Nat.not_lt_zero _)
      | succ n_88 ih_88 =>
        intro A_89 H locs y_87 ls hm_88 iv_89_0 FA_89 FC_89 WZ_89 hT hP hS hl
        have FA := FA_89
        have FC := FC_89
        have WZ := WZ_89
        refine lv_iload hx hb dX12_putRight_123 (lv_at hl 0 rfl) ?_
        refine lv_aload_n hx hb dX12_putRight_125 rfl (lv_at hl 2 rfl) ?_
        refine mg_0 C hs hP ha0 hk0 wf_X12_8 dX12_putRight_126 ?_
        refine lv_iload_n hx hb dX12_putRight_129 rfl (lv_at hl 3 rfl) ?_
        refine lv_iconst (v := 1) hx hb dX12_putRight_130 (by decide) ?_
        refine lv_iadd hx hb dX12_putRight_131 ?_
        refine lv_topi (fun x_91 ex_91 => ?_)
        have hi_hr_92 : zEq x_91.toInt (x1.toInt + 1) := by
          obtain ⟨f_91, l_91, u_91⟩ := z_add ex_91 rfl ti_1
          try replace f_91 : x_91.toInt = x1.toInt + 1 := by omega
          clear l_91 u_91
          show x_91.toInt = (x1.toInt + 1)
          omega
        have hl_hr_92 : (1 : Int) ≤ 1 ∧ 1 ≤ (1 : Int) := by decide
        have hid_hr_92 : (x1.toInt + 1) = x1.toInt + (1) := by simp only [Int.add_assoc, Int.add_sub_assoc]
        have hr_92 := z_cell (lo := 1) (hi := 1) hp0 hi_hr_92 hid_hr_92 hl_hr_92 (by decide)
        replace hid_hr_92 : zEq (x1.toInt + 1) (x1.toInt + (1)) := hid_hr_92
        have hin_93 : vp_in x_91 (zn K (zr K a0 0)) := vp_in_iff.mpr (by rw [(hf_1.2.2 (by decide))]; exact hr_92.in)
        refine mld_40 C hs hP hf_1.1 hf_1.2.1 hin_93 dX12_putRight_132 ?_
        have ep_94 : x_91.toNatClampNeg = (x1.toInt + 1).toNat := z_posE hi_hr_92
        rw [ep_94]
        obtain ⟨f_91, l_91, u_91⟩ := z_add ex_91 rfl ti_1
        try replace f_91 : x_91.toInt = x1.toInt + 1 := by omega
        clear l_91 u_91
        have hc_95 := FC_89 (x1.toInt + 1) (by omega) (by simp only [List.mem_cons, List.not_mem_nil, or_false, forall_eq_or_imp, forall_eq]; omega)
        have ev_96 : A_89 40 (x1.toInt + 1).toNat = A 40 (x1.toInt + 1).toNat := by rw [hc_95]
        have tv_97 := rv_1 hT hr_92
        rw [ep_94] at tv_97
        rw [ev_96] at tv_97
        rw [ev_96]
        refine bi_ge (tgt := 176) hx hb rfl rfl dX12_putRight_133 (by decide) (fun c_98 => ?_) (fun c_98 => ?_)
        · skip
          exact maV hQ hx hb hr hlk hP hS ⟨hT, FA, FF, FC, WZ⟩ dX12_putRight_176
        · skip
          refine lv_aload_n hx hb dX12_putRight_136 rfl (lv_at hl 2 rfl) ?_
          refine mg_0 C hs hP ha0 hk0 wf_X12_8 dX12_putRight_137 ?_
          refine lv_iload_n hx hb dX12_putRight_140 rfl (lv_at hl 3 rfl) ?_
          refine lv_sipush (v := 470) hx hb dX12_putRight_141 (by decide) ?_
          refine lv_iadd hx hb dX12_putRight_144 ?_
          refine lv_topi (fun x_99 ex_99 => ?_)
          refine lv_iload hx hb dX12_putRight_145 (lv_at hl 0 rfl) ?_
          refine lv_iadd hx hb dX12_putRight_147 ?_
          refine lv_topi (fun x_100 ex_100 => ?_)
          have hi_hr_101 : zEq x_100.toInt (x1.toInt + y_87.toInt + 470) := by
            obtain ⟨f_99, l_99, u_99⟩ := z_add ex_99 rfl ti_470
            try replace f_99 : x_99.toInt = x1.toInt + 470 := by omega
            clear l_99 u_99
            have g_102 := z_rng y_87
            obtain ⟨f_100, l_100, u_100⟩ := z_add ex_100 rfl rfl
            try replace f_100 : x_100.toInt = x_99.toInt + y_87.toInt := by omega
            clear l_100 u_100
            show x_100.toInt = (x1.toInt + y_87.toInt + 470)
            omega
          have hl_hr_101 : 470 ≤ y_87.toInt + 470 ∧ y_87.toInt + 470 ≤ 529 := by
            have g_103 := z_rng y_87
            omega
          have hid_hr_101 : (x1.toInt + y_87.toInt + 470) = x1.toInt + (y_87.toInt + 470) := by simp only [Int.add_assoc, Int.add_sub_assoc]
          have hr_101 := z_cell (lo := 470) (hi := 769) hp0 hi_hr_101 hid_hr_101 hl_hr_101 (by decide)
          replace hid_hr_101 : zEq (x1.toInt + y_87.toInt + 470) (x1.toInt + (y_87.toInt + 470)) := hid_hr_101
          have hin_104 : vp_in x_100 (zn K (zr K a0 0)) := vp_in_iff.mpr (by rw [(hf_1.2.2 (by decide))]; exact hr_101.in)
          refine mld_40 C hs hP hf_1.1 hf_1.2.1 hin_104 dX12_putRight_148 ?_
          have ep_105 : x_100.toNatClampNeg = (x1.toInt + y_87.toInt + 470).toNat := z_posE hi_hr_101
          rw [ep_105]
          obtain ⟨f_99, l_99, u_99⟩ := z_add ex_99 rfl ti_470
          try replace f_99 : x_99.toInt = x1.toInt + 470 := by omega
          clear l_99 u_99
          have g_107 := z_rng y_87
          obtain ⟨f_100, l_100, u_100⟩ := z_add ex_100 rfl rfl
          try replace f_100 : x_100.toInt = x_99.toInt + y_87.toInt := by omega
          clear l_100 u_100
          have hc_106 := FC_89 (x1.toInt + y_87.toInt + 470) (by omega) (by simp only [List.mem_cons, List.not_mem_nil, or_false, forall_eq_or_imp, forall_eq]; omega)
          have ev_108 : A_89 40 (x1.toInt + y_87.toInt + 470).toNat = A 40 (x1.toInt + y_87.toInt + 470).toNat := by rw [hc_106]
          rw [ev_108]
          refine lv_iload_n hx hb dX12_putRight_149 rfl (lv_at hl 4 rfl) ?_
          have J_170_117 : ∀ (A_118 : Nat → Nat → Int32) (H : Heap) (locs : List Loc) (ls : Array Slot), (∀ k, k ∉ ([40] : List Nat) → A_118 k = A k) → fC (A 40) (A_118 40) x1.toInt ([(15, 18), (110, 169), (530, 589)] : List (Int × Int)) → wz (A 40) (A_118 40) x1.toInt → mT f A_118 → va_P D vwCl (zW K (mV K f A_118)) H → va_S (zA K) s.heap H locs → lv_has ls 6 [(0, .ref a0), (1, .int x1), (2, .int x2), (3, .int x3), (4, .int x_12), (5, .int y_87)] → W p l e (rmd 0) s m args below meth c H locs 0 0 Q (F0 m 170 ls []) := by
            intro A_118 H locs ls FA_118 FC_118 WZ_118 hT hP hS hl
            have FA := FA_118
            have FC := FC_118
            have WZ := WZ_118
            obtain ⟨x_120, ex_120⟩ : ∃ y : Int32, y = y_87 + 1 := ⟨_, rfl⟩
            refine lv_iinc (v := x_120) (lv' := [(5, .int x_120), (0, .ref a0), (1, .int x1), (2, .int x2), (3, .int x3), (4, .int x_12)]) hx hb dX12_putRight_170 hl (k := 5) rfl (by rw [ex_120]; rfl) (by decide) rfl (fun ls hl => ?_)
            refine lv_goto (tgt := 123) hx hb dX12_putRight_173 (by decide) ?_
            obtain ⟨f_120, l_120, u_120⟩ := z_add ex_120 rfl ti_1
            try replace f_120 : x_120.toInt = y_87.toInt + 1 := by omega
            clear l_120 u_120
            have g_121 := z_rng (A 40 (x1.toInt + 1).toNat)
            exact ih_88 A_118 _ _ x_120 _ (by omega) (by omega) FA FC WZ hT hP hS (lv_sub hl [0, 5, 1, 2, 3, 4] rfl)
          refine bi_ne (tgt := 170) hx hb rfl rfl dX12_putRight_150 (by decide) (fun c_109 => ?_) (fun c_109 => ?_)
          · skip
            exact J_170_117 A_89 _ _ _ FA FC WZ hT hP hS (lv_sub hl [2, 3, 4, 5, 1, 0] rfl)
          · skip
            refine lv_aload_n hx hb dX12_putRight_153 rfl (lv_at hl 2 rfl) ?_
            refine mg_0 C hs hP ha0 hk0 wf_X12_8 dX12_putRight_154 ?_
            refine lv_iload_n hx hb dX12_putRight_157 rfl (lv_at hl 3 rfl) ?_
            refine lv_bipush (v := 110) hx hb dX12_putRight_158 (by decide) ?_
            refine lv_iadd hx hb dX12_putRight_160 ?_
            refine lv_topi (fun x_122 ex_122 => ?_)
            refine lv_iload hx hb dX12_putRight_161 (lv_at hl 0 rfl) ?_
            refine lv_iadd hx hb dX12_putRight_163 ?_
            refine lv_topi (fun x_123 ex_123 => ?_)
            refine lv_bipush (v := 6) hx hb dX12_putRight_164 (by decide) ?_
            refine lv_iload hx hb dX12_putRight_166 (lv_at hl 1 rfl) ?_
            refine lv_iadd hx hb dX12_putRight_168 ?_
            refine lv_topi (fun x_124 ex_124 => ?_)
            have hi_hr_125 : zEq x_123.toInt (x1.toInt + y_87.toInt + 110) := by
              obtain ⟨f_122, l_122, u_122⟩ := z_add ex_122 rfl ti_110
              try replace f_122 : x_122.toInt = x1.toInt + 110 := by omega
              clear l_122 u_122
              obtain ⟨f_123, l_123, u_123⟩ := z_add ex_123 rfl rfl
              try replace f_123 : x_123.toInt = x_122.toInt + y_87.toInt := by omega
              clear l_123 u_123
              show x_123.toInt = (x1.toInt + y_87.toInt + 110)
              omega
            have hl_hr_125 : 110 ≤ y_87.toInt + 110 ∧ y_87.toInt + 110 ≤ 169 := by
              omega
            have hid_hr_125 : (x1.toInt + y_87.toInt + 110) = x1.toInt + (y_87.toInt + 110) := by simp only [Int.add_assoc, Int.add_sub_assoc]
            have hr_125 := z_cell (lo := 45) (hi := 169) hp0 hi_hr_125 hid_hr_125 hl_hr_125 (by decide)
            replace hid_hr_125 : zEq (x1.toInt + y_87.toInt + 110) (x1.toInt + (y_87.toInt + 110)) := hid_hr_125
            have hin_126 : vp_in x_123 (zn K (zr K a0 0)) := vp_in_iff.mpr (by rw [(hf_1.2.2 (by decide))]; exact hr_125.in)
            refine mst_40 C hM hs hP hS hf_1.1 hT hf_1.2.1 hin_126 (tp_45 hr_125) dX12_putRight_169 (fun A_127 H locs hE_127 hT hP hS => ?_)
            have ep_128 : x_123.toNatClampNeg = (x1.toInt + y_87.toInt + 110).toNat := z_posE hi_hr_125
            rw [ep_128] at hE_127
            have FA := frA FA (frAu hE_127) (by decide)
            have FC := fC.tr FC (fC.st (b := x1.toInt) (lo := 110) (hi := 169) hE_127 hb0.1 (by decide) hid_hr_125 hl_hr_125) (by decide)
            obtain ⟨f_124, l_124, u_124⟩ := z_add ex_124 ti_6 rfl
            try replace f_124 : x_124.toInt = 6 + x_12.toInt := by omega
            clear l_124 u_124
            have WZ := wz.st WZ hE_127 (Or.inl (by omega))
            exact J_170_117 A_127 _ _ _ FA FC WZ hT hP hS (lv_sub hl [2, 3, 4, 5, 1, 0] rfl)
    have g_129 := z_rng (A 40 (x1.toInt + x2.toInt + 530).toNat)
    exact L_123_88 _ A_85 _ _ 0 _ (Nat.lt_succ_self _) (by (try simp only [ti_0]); omega) FA FC WZ hT hP hS (lv_sub hl [0, 1, 2, 3, 4, 5] rfl)
  · skip
    exact maV hQ hx hb hr hlk hP hS ⟨hT, FA, FF, FC, WZ⟩ dX12_putRight_16
set_option maxHeartbeats 4000000 in
set_option maxRecDepth 100000 in
theorem c_X12_showFound (l : Launch) (D : va_G) (K : zK) (hM : mK K) (f : Nat → Int32) (A : Nat → Nat → Int32) (hT : mT f A) (a0 : Nat) (ha0 : a0 ∈ zl K) (hk0 : zk K a0 = 11) (x1 : Int32) (x2 : Int32) (x3 : Int32) (hp0 : zRow x1.toInt) (hp1 : 0 ≤ x2.toInt ∧ x2.toInt ≤ 3) : Met l yX12_showFound (zc yX12_showFound cX12_showFound 6 none) (rmd 1) (va_Pc [.ref a0, .int x1, .int x2, .int x3] (zB D K (mV K f A))) (mQv D K (fun f' A' => mT f' A' ∧ (∀ k, k ∉ ([40] : List Nat) → A' k = A k) ∧ (∀ k, k ∉ ([] : List Nat) → f' k = f k) ∧ fC (A 40) (A' 40) x1.toInt ([(15, 18), (110, 169), (530, 589), (830, 889)] : List (Int × Int)) ∧ wz (A 40) (A' 40) x1.toInt)) 0 0 (zA K) := by
  refine zin (by decide) (Nat.le_of_ble_eq_true rfl) ?_
  intro p e s m args below meth c ls Q hQ C hr hlk hP hs hl
  have C : CallFix p m c cX12_showFound 6 s args zw RX12 := C
  obtain ⟨hx, hb, hml, hown, hts⟩ := id C
  have hO := hM.1
  have hS : va_S (zA K) s.heap s.heap [] := va_S.rf
  have FA : ∀ k, k ∉ ([40] : List Nat) → A k = A k := fun _ _ => rfl
  have FF : ∀ k, k ∉ ([] : List Nat) → f k = f k := fun _ _ => rfl
  have FC : fC (A 40) (A 40) x1.toInt ([(15, 18), (110, 169), (530, 589), (830, 889)] : List (Int × Int)) := fun _ _ _ => rfl
  have WZ : wz (A 40) (A 40) x1.toInt := wz.rf
  have hl : lv_has ls 6 [(0, .ref a0), (1, .int x1), (2, .int x2), (3, .int x3)] := hl
  have hb0 := hp0.lin
  refine lv_iconst (v := 0) hx hb dX12_showFound_0 (by decide) ?_
  refine lv_istore (lv' := [(4, .int 0), (0, .ref a0), (1, .int x1), (2, .int x2), (3, .int x3)]) hx hb dX12_showFound_1 hl (by decide) rfl (fun ls hl => ?_)
  have L_3_2 : ∀ (n_2 : Nat) (y_1 : Int32) (ls : Array Slot), (2147483648 - y_1.toInt).toNat < n_2 → 0 ≤ y_1.toInt → lv_has ls 6 [(4, .int y_1), (0, .ref a0), (1, .int x1), (2, .int x2), (3, .int x3)] → W p l e (rmd 1) s m args below meth c s.heap [] 0 0 Q (F0 m 3 ls []) := by
    intro n_2
    induction n_2 with
    | zero => intro y_1 ls hm_2; exact absurd hm_2 (Nat.not_lt_zero _)
    | succ n_2 ih_2 =>
      intro y_1 ls hm_2 iv_3_0 hl
      refine lv_iload hx hb dX12_showFound_3 (lv_at hl 0 rfl) ?_
      refine lv_aload_n hx hb dX12_showFound_5 rfl (lv_at hl 1 rfl) ?_
      refine mg_0 C hs hP ha0 hk0 wf_X12_8 dX12_showFound_6 ?_
      have hf_4 := hO.r (j := 0) ha0 hk0 (rfl : zX 11 0 = some (40, 47730))
      refine lv_iload_n hx hb dX12_showFound_9 rfl (lv_at hl 2 rfl) ?_
      refine lv_bipush (v := 43) hx hb dX12_showFound_10 (by decide) ?_
      refine lv_iadd hx hb dX12_showFound_12 ?_
      refine lv_topi (fun x_5 ex_5 => ?_)
      have hi_hr_6 : zEq x_5.toInt (x1.toInt + 43) := by
        have g_7 := z_rng x1
        obtain ⟨f_5, l_5, u_5⟩ := z_add ex_5 rfl ti_43
        try replace f_5 : x_5.toInt = x1.toInt + 43 := by omega
        clear l_5 u_5
        show x_5.toInt = (x1.toInt + 43)
        omega
      have hl_hr_6 : (43 : Int) ≤ 43 ∧ 43 ≤ (43 : Int) := by decide
      have hid_hr_6 : (x1.toInt + 43) = x1.toInt + (43) := by simp only [Int.add_assoc, Int.add_sub_assoc]
      have hr_6 := z_cell (lo := 43) (hi := 43) hp0 hi_hr_6 hid_hr_6 hl_hr_6 (by decide)
      replace hid_hr_6 : zEq (x1.toInt + 43) (x1.toInt + (43)) := hid_hr_6
      have hin_8 : vp_in x_5 (zn K (zr K a0 0)) := vp_in_iff.mpr (by rw [(hf_4.2.2 (by decide))]; exact hr_6.in)
      refine mld_40 C hs hP hf_4.1 hf_4.2.1 hin_8 dX12_showFound_13 ?_
      have ep_9 : x_5.toNatClampNeg = (x1.toInt + 43).toNat := z_posE hi_hr_6
      rw [ep_9]
      have tv_10 := rv_43 hT hr_6
      rw [ep_9] at tv_10
      refine bi_ge (tgt := 146) hx hb rfl rfl dX12_showFound_14 (by decide) (fun c_11 => ?_) (fun c_11 => ?_)
      · skip
        exact maV hQ hx hb hr hlk hP hS ⟨hT, FA, FF, FC, WZ⟩ dX12_showFound_146
      · skip
        refine lv_aload_n hx hb dX12_showFound_17 rfl (lv_at hl 1 rfl) ?_
        refine mg_0 C hs hP ha0 hk0 wf_X12_8 dX12_showFound_18 ?_
        refine lv_iload_n hx hb dX12_showFound_21 rfl (lv_at hl 2 rfl) ?_
        refine lv_sipush (v := 650) hx hb dX12_showFound_22 (by decide) ?_
        refine lv_iadd hx hb dX12_showFound_25 ?_
        refine lv_topi (fun x_12 ex_12 => ?_)
        refine lv_iload hx hb dX12_showFound_26 (lv_at hl 0 rfl) ?_
        refine lv_iadd hx hb dX12_showFound_28 ?_
        refine lv_topi (fun x_13 ex_13 => ?_)
        have hi_hr_14 : zEq x_13.toInt (x1.toInt + y_1.toInt + 650) := by
          have g_15 := z_rng x1
          obtain ⟨f_12, l_12, u_12⟩ := z_add ex_12 rfl ti_650
          try replace f_12 : x_12.toInt = x1.toInt + 650 := by omega
          clear l_12 u_12
          have g_16 := z_rng y_1
          obtain ⟨f_13, l_13, u_13⟩ := z_add ex_13 rfl rfl
          try replace f_13 : x_13.toInt = x_12.toInt + y_1.toInt := by omega
          clear l_13 u_13
          show x_13.toInt = (x1.toInt + y_1.toInt + 650)
          omega
        have hl_hr_14 : 650 ≤ y_1.toInt + 650 ∧ y_1.toInt + 650 ≤ 709 := by
          have g_17 := z_rng x1
          have g_18 := z_rng y_1
          omega
        have hid_hr_14 : (x1.toInt + y_1.toInt + 650) = x1.toInt + (y_1.toInt + 650) := by simp only [Int.add_assoc, Int.add_sub_assoc]
        have hr_14 := z_cell (lo := 470) (hi := 769) hp0 hi_hr_14 hid_hr_14 hl_hr_14 (by decide)
        replace hid_hr_14 : zEq (x1.toInt + y_1.toInt + 650) (x1.toInt + (y_1.toInt + 650)) := hid_hr_14
        have hin_19 : vp_in x_13 (zn K (zr K a0 0)) := vp_in_iff.mpr (by rw [(hf_4.2.2 (by decide))]; exact hr_14.in)
        refine mld_40 C hs hP hf_4.1 hf_4.2.1 hin_19 dX12_showFound_29 ?_
        have ep_20 : x_13.toNatClampNeg = (x1.toInt + y_1.toInt + 650).toNat := z_posE hi_hr_14
        rw [ep_20]
        refine lv_iload_n hx hb dX12_showFound_30 rfl (lv_at hl 3 rfl) ?_
        have J_97_60 : ∀ (y_59 : Int32) (ls : Array Slot), (y_59 = 0 ∨ y_59 = 1) → lv_has ls 6 [(0, .ref a0), (1, .int x1), (2, .int x2), (3, .int x3), (4, .int y_1)] → W p l e (rmd 1) s m args below meth c s.heap [] 0 0 Q (F0 m 97 ls [.int y_59]) := by
          intro y_59 ls hb_y_59 hl
          refine lv_istore (lv' := [(5, .int y_59), (0, .ref a0), (1, .int x1), (2, .int x2), (3, .int x3), (4, .int y_1)]) hx hb dX12_showFound_97 hl (by decide) rfl (fun ls hl => ?_)
          refine lv_iload hx hb dX12_showFound_99 (lv_at hl 0 rfl) ?_
          refine bz_eq (tgt := 140) hx hb rfl dX12_showFound_101 (by decide) (fun c_62 => ?_) (fun c_62 => ?_)
          · skip
            obtain ⟨x_63, ex_63⟩ : ∃ y : Int32, y = y_1 + 1 := ⟨_, rfl⟩
            refine lv_iinc (v := x_63) (lv' := [(4, .int x_63), (5, .int y_59), (0, .ref a0), (1, .int x1), (2, .int x2), (3, .int x3)]) hx hb dX12_showFound_140 hl (k := 5) rfl (by rw [ex_63]; rfl) (by decide) rfl (fun ls hl => ?_)
            refine lv_goto (tgt := 3) hx hb dX12_showFound_143 (by decide) ?_
            have g_64 := z_rng y_1
            obtain ⟨f_63, l_63, u_63⟩ := z_add ex_63 rfl ti_1
            try replace f_63 : x_63.toInt = y_1.toInt + 1 := by omega
            clear l_63 u_63
            have g_65 := z_rng (A 40 (x1.toInt + 43).toNat)
            have g_66 := z_rng y_59
            exact ih_2 x_63 _ (by omega) (by omega) (lv_sub hl [0, 2, 3, 4, 5] rfl)
          · skip
            refine lv_aload_n hx hb dX12_showFound_104 rfl (lv_at hl 1 rfl) ?_
            refine mg_0 C hs hP ha0 hk0 wf_X12_8 dX12_showFound_105 ?_
            refine lv_iload_n hx hb dX12_showFound_108 rfl (lv_at hl 2 rfl) ?_
            refine lv_sipush (v := 830) hx hb dX12_showFound_109 (by decide) ?_
            refine lv_iadd hx hb dX12_showFound_112 ?_
            refine lv_topi (fun x_67 ex_67 => ?_)
            refine lv_iload hx hb dX12_showFound_113 (lv_at hl 5 rfl) ?_
            refine lv_iadd hx hb dX12_showFound_115 ?_
            refine lv_topi (fun x_68 ex_68 => ?_)
            refine lv_iconst (v := 1) hx hb dX12_showFound_116 (by decide) ?_
            have hi_hr_69 : zEq x_68.toInt (x1.toInt + y_1.toInt + 830) := by
              have g_70 := z_rng x1
              obtain ⟨f_67, l_67, u_67⟩ := z_add ex_67 rfl ti_830
              try replace f_67 : x_67.toInt = x1.toInt + 830 := by omega
              clear l_67 u_67
              have g_71 := z_rng y_1
              obtain ⟨f_68, l_68, u_68⟩ := z_add ex_68 rfl rfl
              try replace f_68 : x_68.toInt = x_67.toInt + y_1.toInt := by omega
              clear l_68 u_68
              show x_68.toInt = (x1.toInt + y_1.toInt + 830)
              omega
            have hl_hr_69 : 830 ≤ y_1.toInt + 830 ∧ y_1.toInt + 830 ≤ 889 := by
              have g_72 := z_rng x1
              have g_73 := z_rng y_1
              omega
            have hid_hr_69 : (x1.toInt + y_1.toInt + 830) = x1.toInt + (y_1.toInt + 830) := by simp only [Int.add_assoc, Int.add_sub_assoc]
            have hr_69 := z_cell (lo := 830) (hi := 1289) hp0 hi_hr_69 hid_hr_69 hl_hr_69 (by decide)
            replace hid_hr_69 : zEq (x1.toInt + y_1.toInt + 830) (x1.toInt + (y_1.toInt + 830)) := hid_hr_69
            have hin_74 : vp_in x_68 (zn K (zr K a0 0)) := vp_in_iff.mpr (by rw [(hf_4.2.2 (by decide))]; exact hr_69.in)
            refine mst_40 C hM hs hP hS hf_4.1 hT hf_4.2.1 hin_74 (tp_830 hr_69) dX12_showFound_117 (fun A_75 H locs hE_75 hT hP hS => ?_)
            have ep_76 : x_68.toNatClampNeg = (x1.toInt + y_1.toInt + 830).toNat := z_posE hi_hr_69
            rw [ep_76] at hE_75
            have FA := frA FA (frAu hE_75) (by decide)
            have FC := fC.tr FC (fC.st (b := x1.toInt) (lo := 830) (hi := 889) hE_75 hb0.1 (by decide) hid_hr_69 hl_hr_69) (by decide)
            have WZ := wz.st WZ hE_75 (Or.inr ⟨by omega, by omega, Or.inr (by omega)⟩)
            refine lv_aload_n hx hb dX12_showFound_118 rfl (lv_at hl 1 rfl) ?_
            refine lv_iload_n hx hb dX12_showFound_119 rfl (lv_at hl 2 rfl) ?_
            refine lv_aload_n hx hb dX12_showFound_120 rfl (lv_at hl 1 rfl) ?_
            refine mg_0 C hs hP ha0 hk0 wf_X12_8 dX12_showFound_121 ?_
            refine lv_iload_n hx hb dX12_showFound_124 rfl (lv_at hl 2 rfl) ?_
            refine lv_sipush (v := 770) hx hb dX12_showFound_125 (by decide) ?_
            refine lv_iadd hx hb dX12_showFound_128 ?_
            refine lv_topi (fun x_77 ex_77 => ?_)
            refine lv_iload hx hb dX12_showFound_129 (lv_at hl 5 rfl) ?_
            refine lv_iadd hx hb dX12_showFound_131 ?_
            refine lv_topi (fun x_78 ex_78 => ?_)
            have hi_hr_79 : zEq x_78.toInt (x1.toInt + y_1.toInt + 770) := by
              have g_80 := z_rng x1
              obtain ⟨f_77, l_77, u_77⟩ := z_add ex_77 rfl ti_770
              try replace f_77 : x_77.toInt = x1.toInt + 770 := by omega
              clear l_77 u_77
              have g_81 := z_rng y_1
              obtain ⟨f_78, l_78, u_78⟩ := z_add ex_78 rfl rfl
              try replace f_78 : x_78.toInt = x_77.toInt + y_1.toInt := by omega
              clear l_78 u_78
              show x_78.toInt = (x1.toInt + y_1.toInt + 770)
              omega
            have hl_hr_79 : 770 ≤ y_1.toInt + 770 ∧ y_1.toInt + 770 ≤ 829 := by
              have g_82 := z_rng x1
              have g_83 := z_rng y_1
              omega
            have hid_hr_79 : (x1.toInt + y_1.toInt + 770) = x1.toInt + (y_1.toInt + 770) := by simp only [Int.add_assoc, Int.add_sub_assoc]
            have hr_79 := z_cell (lo := 770) (hi := 829) hp0 hi_hr_79 hid_hr_79 hl_hr_79 (by decide)
            replace hid_hr_79 : zEq (x1.toInt + y_1.toInt + 770) (x1.toInt + (y_1.toInt + 770)) := hid_hr_79
            have hin_84 : vp_in x_78 (zn K (zr K a0 0)) := vp_in_iff.mpr (by rw [(hf_4.2.2 (by decide))]; exact hr_79.in)
            refine mld_40 C hs hP hf_4.1 hf_4.2.1 hin_84 dX12_showFound_132 ?_
            have ep_85 : x_78.toNatClampNeg = (x1.toInt + y_1.toInt + 770).toNat := z_posE hi_hr_79
            rw [ep_85]
            have g_87 := z_rng x1
            obtain ⟨f_77, l_77, u_77⟩ := z_add ex_77 rfl ti_770
            try replace f_77 : x_77.toInt = x1.toInt + 770 := by omega
            clear l_77 u_77
            have g_88 := z_rng y_1
            obtain ⟨f_78, l_78, u_78⟩ := z_add ex_78 rfl rfl
            try replace f_78 : x_78.toInt = x_77.toInt + y_1.toInt := by omega
            clear l_78 u_78
            obtain ⟨f_67, l_67, u_67⟩ := z_add ex_67 rfl ti_830
            try replace f_67 : x_67.toInt = x1.toInt + 830 := by omega
            clear l_67 u_67
            obtain ⟨f_68, l_68, u_68⟩ := z_add ex_68 rfl rfl
            try replace f_68 : x_68.toInt = x_67.toInt + y_1.toInt := by omega
            clear l_68 u_68
            have hn_86 : (x1.toInt + y_1.toInt + 770).toNat ≠ (x1.toInt + y_1.toInt + 830).toNat := by omega
            have ev_89 : A_75 40 (x1.toInt + y_1.toInt + 770).toNat = A 40 (x1.toInt + y_1.toInt + 770).toNat := by rw [hE_75, va_up_self, pk_un hn_86]
            have tv_90 := rv_770 hT hr_79
            rw [ep_85] at tv_90
            rw [ev_89] at tv_90
            rw [ev_89]
            refine lv_iload_n hx hb dX12_showFound_133 rfl (lv_at hl 3 rfl) ?_
            refine lv_iconst (v := 2) hx hb dX12_showFound_134 (by decide) ?_
            refine lv_irem hx hb dX12_showFound_135 (by decide) ?_
            refine lv_topi (fun x_91 ex_91 => ?_)
            have g_92 := z_rng (A 40 (x1.toInt + y_1.toInt + 770).toNat)
            have g_93 := z_rng x2
            have f_91 := z_rem ex_91 rfl ti_2 (by decide)
            have hq_94 : 0 ≤ (A 40 (x1.toInt + y_1.toInt + 770).toNat).toInt ∧ (A 40 (x1.toInt + y_1.toInt + 770).toNat).toInt ≤ 59 := by (first | assumption | omega | (intros; omega))
            have hq_95 : 0 ≤ x_91.toInt ∧ x_91.toInt ≤ 1 := by (first | assumption | omega | (intros; omega))
            refine mcV (zrV (As := [.int x1, .int (A 40 (x1.toInt + y_1.toInt + 770).toNat), .int x_91]) (b := a0) (rest := []) C hs hP hS (c_X12_putRight l D K hM f A_75 hT a0 ha0 hk0 x1 (A 40 (x1.toInt + y_1.toInt + 770).toNat) x_91 hp0 hq_94 hq_95) m_X12_putRight wm_X12_211 (zrecv hs hP ha0 (zF_11 hk0) rfl) ⟨by decide, by decide⟩ hl.1 (Nat.le_of_ble_eq_true rfl) dX12_showFound_136) hS (fun f_96 A_96 H locs p_96 hP hS => ?_)
            obtain ⟨hT, hA_96, hF_96, hC_96, hW_96⟩ := p_96
            have hff_96 : f = f_96 := funext (fun k9 => (hF_96 k9 List.not_mem_nil).symm)
            subst hff_96
            have FA := frA FA hA_96 (by decide)
            have FF := frF FF hF_96 (by decide)
            have FC := fC.tr FC hC_96 (by decide)
            have WZ := wz.tr WZ hW_96
            exact maV hQ hx hb hr hlk hP hS ⟨hT, FA, FF, FC, WZ⟩ dX12_showFound_139
        refine bi_ne (tgt := 96) hx hb rfl rfl dX12_showFound_31 (by decide) (fun c_21 => ?_) (fun c_21 => ?_)
        · skip
          refine lv_iconst (v := 0) hx hb dX12_showFound_96 (by decide) ?_
          exact J_97_60 0 _ (Or.inl rfl) (lv_sub hl [1, 2, 3, 4, 0] rfl)
        · skip
          refine lv_aload_n hx hb dX12_showFound_34 rfl (lv_at hl 1 rfl) ?_
          refine mg_0 C hs hP ha0 hk0 wf_X12_8 dX12_showFound_35 ?_
          refine lv_iload_n hx hb dX12_showFound_38 rfl (lv_at hl 2 rfl) ?_
          refine lv_sipush (v := 830) hx hb dX12_showFound_39 (by decide) ?_
          refine lv_iadd hx hb dX12_showFound_42 ?_
          refine lv_topi (fun x_97 ex_97 => ?_)
          refine lv_iload hx hb dX12_showFound_43 (lv_at hl 0 rfl) ?_
          refine lv_iadd hx hb dX12_showFound_45 ?_
          refine lv_topi (fun x_98 ex_98 => ?_)
          have hi_hr_99 : zEq x_98.toInt (x1.toInt + y_1.toInt + 830) := by
            have g_100 := z_rng x1
            obtain ⟨f_97, l_97, u_97⟩ := z_add ex_97 rfl ti_830
            try replace f_97 : x_97.toInt = x1.toInt + 830 := by omega
            clear l_97 u_97
            have g_101 := z_rng y_1
            obtain ⟨f_98, l_98, u_98⟩ := z_add ex_98 rfl rfl
            try replace f_98 : x_98.toInt = x_97.toInt + y_1.toInt := by omega
            clear l_98 u_98
            show x_98.toInt = (x1.toInt + y_1.toInt + 830)
            omega
          have hl_hr_99 : 830 ≤ y_1.toInt + 830 ∧ y_1.toInt + 830 ≤ 889 := by
            have g_102 := z_rng x1
            have g_103 := z_rng y_1
            omega
          have hid_hr_99 : (x1.toInt + y_1.toInt + 830) = x1.toInt + (y_1.toInt + 830) := by simp only [Int.add_assoc, Int.add_sub_assoc]
          have hr_99 := z_cell (lo := 830) (hi := 1289) hp0 hi_hr_99 hid_hr_99 hl_hr_99 (by decide)
          replace hid_hr_99 : zEq (x1.toInt + y_1.toInt + 830) (x1.toInt + (y_1.toInt + 830)) := hid_hr_99
          have hin_104 : vp_in x_98 (zn K (zr K a0 0)) := vp_in_iff.mpr (by rw [(hf_4.2.2 (by decide))]; exact hr_99.in)
          refine mld_40 C hs hP hf_4.1 hf_4.2.1 hin_104 dX12_showFound_46 ?_
          have ep_105 : x_98.toNatClampNeg = (x1.toInt + y_1.toInt + 830).toNat := z_posE hi_hr_99
          rw [ep_105]
          refine bz_ne (tgt := 96) hx hb rfl dX12_showFound_47 (by decide) (fun c_106 => ?_) (fun c_106 => ?_)
          · skip
            refine lv_iconst (v := 0) hx hb dX12_showFound_96 (by decide) ?_
            exact J_97_60 0 _ (Or.inl rfl) (lv_sub hl [1, 2, 3, 4, 0] rfl)
          · skip
            refine lv_aload_n hx hb dX12_showFound_50 rfl (lv_at hl 1 rfl) ?_
            refine mg_0 C hs hP ha0 hk0 wf_X12_8 dX12_showFound_51 ?_
            refine lv_iload_n hx hb dX12_showFound_54 rfl (lv_at hl 2 rfl) ?_
            refine lv_sipush (v := 710) hx hb dX12_showFound_55 (by decide) ?_
            refine lv_iadd hx hb dX12_showFound_58 ?_
            refine lv_topi (fun x_107 ex_107 => ?_)
            refine lv_iload hx hb dX12_showFound_59 (lv_at hl 0 rfl) ?_
            refine lv_iadd hx hb dX12_showFound_61 ?_
            refine lv_topi (fun x_108 ex_108 => ?_)
            have hi_hr_109 : zEq x_108.toInt (x1.toInt + y_1.toInt + 710) := by
              have g_110 := z_rng x1
              obtain ⟨f_107, l_107, u_107⟩ := z_add ex_107 rfl ti_710
              try replace f_107 : x_107.toInt = x1.toInt + 710 := by omega
              clear l_107 u_107
              have g_111 := z_rng y_1
              obtain ⟨f_108, l_108, u_108⟩ := z_add ex_108 rfl rfl
              try replace f_108 : x_108.toInt = x_107.toInt + y_1.toInt := by omega
              clear l_108 u_108
              show x_108.toInt = (x1.toInt + y_1.toInt + 710)
              omega
            have hl_hr_109 : 710 ≤ y_1.toInt + 710 ∧ y_1.toInt + 710 ≤ 769 := by
              have g_112 := z_rng x1
              have g_113 := z_rng y_1
              omega
            have hid_hr_109 : (x1.toInt + y_1.toInt + 710) = x1.toInt + (y_1.toInt + 710) := by simp only [Int.add_assoc, Int.add_sub_assoc]
            have hr_109 := z_cell (lo := 470) (hi := 769) hp0 hi_hr_109 hid_hr_109 hl_hr_109 (by decide)
            replace hid_hr_109 : zEq (x1.toInt + y_1.toInt + 710) (x1.toInt + (y_1.toInt + 710)) := hid_hr_109
            have hin_114 : vp_in x_108 (zn K (zr K a0 0)) := vp_in_iff.mpr (by rw [(hf_4.2.2 (by decide))]; exact hr_109.in)
            refine mld_40 C hs hP hf_4.1 hf_4.2.1 hin_114 dX12_showFound_62 ?_
            have ep_115 : x_108.toNatClampNeg = (x1.toInt + y_1.toInt + 710).toNat := z_posE hi_hr_109
            rw [ep_115]
            refine lv_iload_n hx hb dX12_showFound_63 rfl (lv_at hl 4 rfl) ?_
            refine bi_ne (tgt := 96) hx hb rfl rfl dX12_showFound_64 (by decide) (fun c_116 => ?_) (fun c_116 => ?_)
            · skip
              refine lv_iconst (v := 0) hx hb dX12_showFound_96 (by decide) ?_
              exact J_97_60 0 _ (Or.inl rfl) (lv_sub hl [1, 2, 3, 4, 0] rfl)
            · skip
              refine lv_aload_n hx hb dX12_showFound_67 rfl (lv_at hl 1 rfl) ?_
              refine mg_0 C hs hP ha0 hk0 wf_X12_8 dX12_showFound_68 ?_
              refine lv_iload_n hx hb dX12_showFound_71 rfl (lv_at hl 2 rfl) ?_
              refine lv_sipush (v := 770) hx hb dX12_showFound_72 (by decide) ?_
              refine lv_iadd hx hb dX12_showFound_75 ?_
              refine lv_topi (fun x_117 ex_117 => ?_)
              refine lv_iload hx hb dX12_showFound_76 (lv_at hl 0 rfl) ?_
              refine lv_iadd hx hb dX12_showFound_78 ?_
              refine lv_topi (fun x_118 ex_118 => ?_)
              have hi_hr_119 : zEq x_118.toInt (x1.toInt + y_1.toInt + 770) := by
                have g_120 := z_rng x1
                obtain ⟨f_117, l_117, u_117⟩ := z_add ex_117 rfl ti_770
                try replace f_117 : x_117.toInt = x1.toInt + 770 := by omega
                clear l_117 u_117
                have g_121 := z_rng y_1
                obtain ⟨f_118, l_118, u_118⟩ := z_add ex_118 rfl rfl
                try replace f_118 : x_118.toInt = x_117.toInt + y_1.toInt := by omega
                clear l_118 u_118
                show x_118.toInt = (x1.toInt + y_1.toInt + 770)
                omega
              have hl_hr_119 : 770 ≤ y_1.toInt + 770 ∧ y_1.toInt + 770 ≤ 829 := by
                have g_122 := z_rng x1
                have g_123 := z_rng y_1
                omega
              have hid_hr_119 : (x1.toInt + y_1.toInt + 770) = x1.toInt + (y_1.toInt + 770) := by simp only [Int.add_assoc, Int.add_sub_assoc]
              have hr_119 := z_cell (lo := 770) (hi := 829) hp0 hi_hr_119 hid_hr_119 hl_hr_119 (by decide)
              replace hid_hr_119 : zEq (x1.toInt + y_1.toInt + 770) (x1.toInt + (y_1.toInt + 770)) := hid_hr_119
              have hin_124 : vp_in x_118 (zn K (zr K a0 0)) := vp_in_iff.mpr (by rw [(hf_4.2.2 (by decide))]; exact hr_119.in)
              refine mld_40 C hs hP hf_4.1 hf_4.2.1 hin_124 dX12_showFound_79 ?_
              have ep_125 : x_118.toNatClampNeg = (x1.toInt + y_1.toInt + 770).toNat := z_posE hi_hr_119
              rw [ep_125]
              have tv_126 := rv_770 hT hr_119
              rw [ep_125] at tv_126
              refine lv_aload_n hx hb dX12_showFound_80 rfl (lv_at hl 1 rfl) ?_
              refine mg_0 C hs hP ha0 hk0 wf_X12_8 dX12_showFound_81 ?_
              refine lv_iload_n hx hb dX12_showFound_84 rfl (lv_at hl 2 rfl) ?_
              refine lv_bipush (v := 20) hx hb dX12_showFound_85 (by decide) ?_
              refine lv_iadd hx hb dX12_showFound_87 ?_
              refine lv_topi (fun x_127 ex_127 => ?_)
              have hi_hr_128 : zEq x_127.toInt (x1.toInt + 20) := by
                have g_129 := z_rng x1
                obtain ⟨f_127, l_127, u_127⟩ := z_add ex_127 rfl ti_20
                try replace f_127 : x_127.toInt = x1.toInt + 20 := by omega
                clear l_127 u_127
                show x_127.toInt = (x1.toInt + 20)
                omega
              have hl_hr_128 : (20 : Int) ≤ 20 ∧ 20 ≤ (20 : Int) := by decide
              have hid_hr_128 : (x1.toInt + 20) = x1.toInt + (20) := by simp only [Int.add_assoc, Int.add_sub_assoc]
              have hr_128 := z_cell (lo := 20) (hi := 21) hp0 hi_hr_128 hid_hr_128 hl_hr_128 (by decide)
              replace hid_hr_128 : zEq (x1.toInt + 20) (x1.toInt + (20)) := hid_hr_128
              have hin_130 : vp_in x_127 (zn K (zr K a0 0)) := vp_in_iff.mpr (by rw [(hf_4.2.2 (by decide))]; exact hr_128.in)
              refine mld_40 C hs hP hf_4.1 hf_4.2.1 hin_130 dX12_showFound_88 ?_
              have ep_131 : x_127.toNatClampNeg = (x1.toInt + 20).toNat := z_posE hi_hr_128
              rw [ep_131]
              have tv_132 := rv_20 hT hr_128
              rw [ep_131] at tv_132
              refine bi_ge (tgt := 96) hx hb rfl rfl dX12_showFound_89 (by decide) (fun c_133 => ?_) (fun c_133 => ?_)
              · skip
                refine lv_iconst (v := 0) hx hb dX12_showFound_96 (by decide) ?_
                exact J_97_60 0 _ (Or.inl rfl) (lv_sub hl [1, 2, 3, 4, 0] rfl)
              · skip
                refine lv_iconst (v := 1) hx hb dX12_showFound_92 (by decide) ?_
                refine lv_goto (tgt := 97) hx hb dX12_showFound_93 (by decide) ?_
                exact J_97_60 1 _ (Or.inr rfl) (lv_sub hl [1, 2, 3, 4, 0] rfl)
  exact L_3_2 _ 0 _ (Nat.lt_succ_self _) (by (try simp only [ti_0]); omega) (lv_sub hl [0, 1, 2, 3, 4] rfl)
