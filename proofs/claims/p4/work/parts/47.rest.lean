set_option maxHeartbeats 4000000 in
set_option maxRecDepth 100000 in
theorem c_X12_takeRest (l : Launch) (D : va_G) (K : zK) (hM : mK K) (f : Nat → Int32) (A : Nat → Nat → Int32) (hT : mT f A) (a0 : Nat) (ha0 : a0 ∈ zl K) (hk0 : zk K a0 = 11) (x1 : Int32) (x2 : Int32) (hp0 : zRow x1.toInt) (hp1 : 0 ≤ x2.toInt ∧ x2.toInt < (A 40 (x1.toInt + 21).toNat).toInt) : Met l yX12_takeRest (zc yX12_takeRest cX12_takeRest 4 none) (rmd 0) (va_Pc [.ref a0, .int x1, .int x2] (zB D K (mV K f A))) (mQv D K (fun f' A' => mT f' A' ∧ (∀ k, k ∉ ([40] : List Nat) → A' k = A k) ∧ (∀ k, k ∉ ([] : List Nat) → f' k = f k) ∧ fC (A 40) (A' 40) x1.toInt ([(21, 21), (170, 229)] : List (Int × Int)) ∧ (A' 40 (x1.toInt + 21).toNat).toInt = (A 40 (x1.toInt + 21).toNat).toInt - 1 ∧ shL (A 40) (A' 40) x1.toInt x2.toInt ((A 40 (x1.toInt + 21).toNat).toInt - 1))) 0 0 (zA K) := by
  refine zin (by decide) (Nat.le_of_ble_eq_true rfl) ?_
  intro p e s m args below meth c ls Q hQ C hr hlk hP hs hl
  have C : CallFix p m c cX12_takeRest 4 s args zw RX12 := C
  obtain ⟨hx, hb, hml, hown, hts⟩ := id C
  have hO := hM.1
  have hS : va_S (zA K) s.heap s.heap [] := va_S.rf
  have FA : ∀ k, k ∉ ([40] : List Nat) → A k = A k := fun _ _ => rfl
  have FF : ∀ k, k ∉ ([] : List Nat) → f k = f k := fun _ _ => rfl
  have FC : fC (A 40) (A 40) x1.toInt ([(21, 21), (170, 229)] : List (Int × Int)) := fun _ _ _ => rfl
  have hl : lv_has ls 4 [(0, .ref a0), (1, .int x1), (2, .int x2)] := hl
  have hb0 := hp0.lin
  refine lv_aload_n hx hb dX12_takeRest_0 rfl (lv_at hl 0 rfl) ?_
  refine mg_0 C hs hP ha0 hk0 wf_X12_8 dX12_takeRest_1 ?_
  have hf_1 := hO.r (j := 0) ha0 hk0 (rfl : zX 11 0 = some (40, 47730))
  refine lv_iload_n hx hb dX12_takeRest_4 rfl (lv_at hl 1 rfl) ?_
  refine lv_bipush (v := 21) hx hb dX12_takeRest_5 (by decide) ?_
  refine lv_iadd hx hb dX12_takeRest_7 ?_
  refine lv_topi (fun x_2 ex_2 => ?_)
  refine lv_dup2_11 hx hb dX12_takeRest_8 rfl rfl ?_
  have hi_hr_3 : zEq x_2.toInt (x1.toInt + 21) := by
    have g_4 := z_rng x1
    obtain ⟨f_2, l_2, u_2⟩ := z_add ex_2 rfl ti_21
    try replace f_2 : x_2.toInt = x1.toInt + 21 := by omega
    clear l_2 u_2
    show x_2.toInt = (x1.toInt + 21)
    omega
  have hl_hr_3 : (21 : Int) ≤ 21 ∧ 21 ≤ (21 : Int) := by decide
  have hid_hr_3 : (x1.toInt + 21) = x1.toInt + (21) := by simp only [Int.add_assoc, Int.add_sub_assoc]
  have hr_3 := z_cell (lo := 20) (hi := 21) hp0 hi_hr_3 hid_hr_3 hl_hr_3 (by decide)
  replace hid_hr_3 : zEq (x1.toInt + 21) (x1.toInt + (21)) := hid_hr_3
  have hin_5 : vp_in x_2 (zn K (zr K a0 0)) := vp_in_iff.mpr (by rw [(hf_1.2.2 (by decide))]; exact hr_3.in)
  refine mld_40 C hs hP hf_1.1 hf_1.2.1 hin_5 dX12_takeRest_9 ?_
  have ep_6 : x_2.toNatClampNeg = (x1.toInt + 21).toNat := z_posE hi_hr_3
  rw [ep_6]
  have tv_7 := rv_20 hT hr_3
  rw [ep_6] at tv_7
  refine lv_iconst (v := 1) hx hb dX12_takeRest_10 (by decide) ?_
  refine lv_isub hx hb dX12_takeRest_11 ?_
  refine lv_topi (fun x_8 ex_8 => ?_)
  have hin_9 : vp_in x_2 (zn K (zr K a0 0)) := vp_in_iff.mpr (by rw [(hf_1.2.2 (by decide))]; exact hr_3.in)
  have g_11 := z_rng (A 40 (x1.toInt + 21).toNat)
  obtain ⟨f_8, l_8, u_8⟩ := z_sub ex_8 rfl ti_1
  try replace f_8 : x_8.toInt = (A 40 (x1.toInt + 21).toNat).toInt - 1 := by omega
  clear l_8 u_8
  refine mst_40 C hM hs hP hS hf_1.1 hT hf_1.2.1 hin_9 (tp_20 hr_3 (show 0 ≤ x_8.toInt ∧ x_8.toInt ≤ 60 from by omega)) dX12_takeRest_12 (fun A_10 H locs hE_10 hT hP hS => ?_)
  have ep_12 : x_2.toNatClampNeg = (x1.toInt + 21).toNat := z_posE hi_hr_3
  rw [ep_12] at hE_10
  have FA := frA FA (frAu hE_10) (by decide)
  have FC := fC.tr FC (fC.st (b := x1.toInt) (lo := 21) (hi := 21) hE_10 hb0.1 (by decide) hid_hr_3 hl_hr_3) (by decide)
  refine lv_iload_n hx hb dX12_takeRest_13 rfl (lv_at hl 2 rfl) ?_
  refine lv_istore_n (lv' := [(3, .int x2), (0, .ref a0), (1, .int x1), (2, .int x2)]) hx hb dX12_takeRest_14 rfl hl (by decide) rfl (fun ls hl => ?_)
  have L_15_14 : ∀ (n_14 : Nat) (A_15 : Nat → Nat → Int32) (H : Heap) (locs : List Loc) (y_13 : Int32) (ls : Array Slot), (2147483648 - y_13.toInt).toNat < n_14 → x2.toInt ≤ y_13.toInt → y_13.toInt ≤ (A 40 (x1.toInt + 21).toNat).toInt - 1 → (A_15 40 (x1.toInt + 21).toNat).toInt = (A 40 (x1.toInt + 21).toNat).toInt - 1 → shL (A 40) (A_15 40) x1.toInt x2.toInt y_13.toInt → (∀ k, k ∉ ([40] : List Nat) → A_15 k = A k) → fC (A 40) (A_15 40) x1.toInt ([(21, 21), (170, 229)] : List (Int × Int)) → mT f A_15 → va_P D vwCl (zW K (mV K f A_15)) H → va_S (zA K) s.heap H locs → lv_has ls 4 [(3, .int y_13), (0, .ref a0), (1, .int x1), (2, .int x2)] → W p l e (rmd 0) s m args below meth c H locs 0 0 Q (F0 m 15 ls []) := by
    intro n_14
    induction n_14 with
    | zero => intro A_15 H locs y_13 ls hm_14; exact absurd hm_14 (Nat.not_lt_zero _)
    | succ n_14 ih_14 =>
      intro A_15 H locs y_13 ls hm_14 iv_15_0 iv_15_1 iv_15_2 iv_15_3 FA_15 FC_15 hT hP hS hl
      have FA := FA_15
      have FC := FC_15
      refine lv_iload_n hx hb dX12_takeRest_15 rfl (lv_at hl 0 rfl) ?_
      refine lv_aload_n hx hb dX12_takeRest_16 rfl (lv_at hl 1 rfl) ?_
      refine mg_0 C hs hP ha0 hk0 wf_X12_8 dX12_takeRest_17 ?_
      refine lv_iload_n hx hb dX12_takeRest_20 rfl (lv_at hl 2 rfl) ?_
      refine lv_bipush (v := 21) hx hb dX12_takeRest_21 (by decide) ?_
      refine lv_iadd hx hb dX12_takeRest_23 ?_
      refine lv_topi (fun x_17 ex_17 => ?_)
      have hi_hr_18 : zEq x_17.toInt (x1.toInt + 21) := by
        have g_19 := z_rng x1
        obtain ⟨f_17, l_17, u_17⟩ := z_add ex_17 rfl ti_21
        try replace f_17 : x_17.toInt = x1.toInt + 21 := by omega
        clear l_17 u_17
        show x_17.toInt = (x1.toInt + 21)
        omega
      have hl_hr_18 : (21 : Int) ≤ 21 ∧ 21 ≤ (21 : Int) := by decide
      have hid_hr_18 : (x1.toInt + 21) = x1.toInt + (21) := by simp only [Int.add_assoc, Int.add_sub_assoc]
      have hr_18 := z_cell (lo := 20) (hi := 21) hp0 hi_hr_18 hid_hr_18 hl_hr_18 (by decide)
      replace hid_hr_18 : zEq (x1.toInt + 21) (x1.toInt + (21)) := hid_hr_18
      have hin_20 : vp_in x_17 (zn K (zr K a0 0)) := vp_in_iff.mpr (by rw [(hf_1.2.2 (by decide))]; exact hr_18.in)
      refine mld_40 C hs hP hf_1.1 hf_1.2.1 hin_20 dX12_takeRest_24 ?_
      have ep_21 : x_17.toNatClampNeg = (x1.toInt + 21).toNat := z_posE hi_hr_18
      rw [ep_21]
      have tv_22 := rv_20 hT hr_18
      rw [ep_21] at tv_22
      refine bi_ge (tgt := 60) hx hb rfl rfl dX12_takeRest_25 (by decide) (fun c_23 => ?_) (fun c_23 => ?_)
      · skip
        have hz_24 : y_13.toInt = (A 40 (x1.toInt + 21).toNat).toInt - 1 := by omega
        exact maV hQ hx hb hr hlk hP hS ⟨hT, FA, FF, FC, ⟨iv_15_2, by rw [← hz_24]; exact iv_15_3⟩⟩ dX12_takeRest_60
      · skip
        refine lv_aload_n hx hb dX12_takeRest_28 rfl (lv_at hl 1 rfl) ?_
        refine mg_0 C hs hP ha0 hk0 wf_X12_8 dX12_takeRest_29 ?_
        refine lv_iload_n hx hb dX12_takeRest_32 rfl (lv_at hl 2 rfl) ?_
        refine lv_sipush (v := 170) hx hb dX12_takeRest_33 (by decide) ?_
        refine lv_iadd hx hb dX12_takeRest_36 ?_
        refine lv_topi (fun x_25 ex_25 => ?_)
        refine lv_iload_n hx hb dX12_takeRest_37 rfl (lv_at hl 0 rfl) ?_
        refine lv_iadd hx hb dX12_takeRest_38 ?_
        refine lv_topi (fun x_26 ex_26 => ?_)
        refine lv_aload_n hx hb dX12_takeRest_39 rfl (lv_at hl 1 rfl) ?_
        refine mg_0 C hs hP ha0 hk0 wf_X12_8 dX12_takeRest_40 ?_
        refine lv_iload_n hx hb dX12_takeRest_43 rfl (lv_at hl 2 rfl) ?_
        refine lv_sipush (v := 170) hx hb dX12_takeRest_44 (by decide) ?_
        refine lv_iadd hx hb dX12_takeRest_47 ?_
        refine lv_topi (fun x_27 ex_27 => ?_)
        refine lv_iload_n hx hb dX12_takeRest_48 rfl (lv_at hl 0 rfl) ?_
        refine lv_iadd hx hb dX12_takeRest_49 ?_
        refine lv_topi (fun x_28 ex_28 => ?_)
        refine lv_iconst (v := 1) hx hb dX12_takeRest_50 (by decide) ?_
        refine lv_iadd hx hb dX12_takeRest_51 ?_
        refine lv_topi (fun x_29 ex_29 => ?_)
        have hi_hr_30 : zEq x_29.toInt (x1.toInt + y_13.toInt + 171) := by
          have g_31 := z_rng x1
          obtain ⟨f_27, l_27, u_27⟩ := z_add ex_27 rfl ti_170
          try replace f_27 : x_27.toInt = x1.toInt + 170 := by omega
          clear l_27 u_27
          have g_32 := z_rng y_13
          obtain ⟨f_28, l_28, u_28⟩ := z_add ex_28 rfl rfl
          try replace f_28 : x_28.toInt = x_27.toInt + y_13.toInt := by omega
          clear l_28 u_28
          obtain ⟨f_29, l_29, u_29⟩ := z_add ex_29 rfl ti_1
          try replace f_29 : x_29.toInt = x_28.toInt + 1 := by omega
          clear l_29 u_29
          show x_29.toInt = (x1.toInt + y_13.toInt + 171)
          omega
        have hl_hr_30 : 170 ≤ y_13.toInt + 171 ∧ y_13.toInt + 171 ≤ 229 := by
          have g_33 := z_rng x1
          have g_34 := z_rng y_13
          omega
        have hid_hr_30 : (x1.toInt + y_13.toInt + 171) = x1.toInt + (y_13.toInt + 171) := by simp only [Int.add_assoc, Int.add_sub_assoc]
        have hr_30 := z_cell (lo := 170) (hi := 469) hp0 hi_hr_30 hid_hr_30 hl_hr_30 (by decide)
        replace hid_hr_30 : zEq (x1.toInt + y_13.toInt + 171) (x1.toInt + (y_13.toInt + 171)) := hid_hr_30
        have hin_35 : vp_in x_29 (zn K (zr K a0 0)) := vp_in_iff.mpr (by rw [(hf_1.2.2 (by decide))]; exact hr_30.in)
        refine mld_40 C hs hP hf_1.1 hf_1.2.1 hin_35 dX12_takeRest_52 ?_
        have ep_36 : x_29.toNatClampNeg = (x1.toInt + y_13.toInt + 171).toNat := z_posE hi_hr_30
        rw [ep_36]
        have tv_37 := rv_170 hT hr_30
        rw [ep_36] at tv_37
        have hi_hr_38 : zEq x_26.toInt (x1.toInt + y_13.toInt + 170) := by
          have g_39 := z_rng x1
          obtain ⟨f_25, l_25, u_25⟩ := z_add ex_25 rfl ti_170
          try replace f_25 : x_25.toInt = x1.toInt + 170 := by omega
          clear l_25 u_25
          have g_40 := z_rng y_13
          obtain ⟨f_26, l_26, u_26⟩ := z_add ex_26 rfl rfl
          try replace f_26 : x_26.toInt = x_25.toInt + y_13.toInt := by omega
          clear l_26 u_26
          show x_26.toInt = (x1.toInt + y_13.toInt + 170)
          omega
        have hl_hr_38 : 170 ≤ y_13.toInt + 170 ∧ y_13.toInt + 170 ≤ 229 := by
          have g_41 := z_rng x1
          have g_42 := z_rng y_13
          omega
        have hid_hr_38 : (x1.toInt + y_13.toInt + 170) = x1.toInt + (y_13.toInt + 170) := by simp only [Int.add_assoc, Int.add_sub_assoc]
        have hr_38 := z_cell (lo := 170) (hi := 469) hp0 hi_hr_38 hid_hr_38 hl_hr_38 (by decide)
        replace hid_hr_38 : zEq (x1.toInt + y_13.toInt + 170) (x1.toInt + (y_13.toInt + 170)) := hid_hr_38
        have hin_43 : vp_in x_26 (zn K (zr K a0 0)) := vp_in_iff.mpr (by rw [(hf_1.2.2 (by decide))]; exact hr_38.in)
        have g_45 := z_rng (A_15 40 (x1.toInt + y_13.toInt + 171).toNat)
        refine mst_40 C hM hs hP hS hf_1.1 hT hf_1.2.1 hin_43 (tp_170 hr_38 (show 0 ≤ (A_15 40 (x1.toInt + y_13.toInt + 171).toNat).toInt ∧ (A_15 40 (x1.toInt + y_13.toInt + 171).toNat).toInt ≤ 59 from by omega)) dX12_takeRest_53 (fun A_44 H locs hE_44 hT hP hS => ?_)
        have ep_46 : x_26.toNatClampNeg = (x1.toInt + y_13.toInt + 170).toNat := z_posE hi_hr_38
        rw [ep_46] at hE_44
        have FA := frA FA (frAu hE_44) (by decide)
        have FC := fC.tr FC (fC.st (b := x1.toInt) (lo := 170) (hi := 229) hE_44 hb0.1 (by decide) hid_hr_38 hl_hr_38) (by decide)
        obtain ⟨x_47, ex_47⟩ : ∃ y : Int32, y = y_13 + 1 := ⟨_, rfl⟩
        refine lv_iinc (v := x_47) (lv' := [(3, .int x_47), (0, .ref a0), (1, .int x1), (2, .int x2)]) hx hb dX12_takeRest_54 hl (k := 0) rfl (by rw [ex_47]; rfl) (by decide) rfl (fun ls hl => ?_)
        refine lv_goto (tgt := 15) hx hb dX12_takeRest_57 (by decide) ?_
        have g_48 := z_rng y_13
        obtain ⟨f_47, l_47, u_47⟩ := z_add ex_47 rfl ti_1
        try replace f_47 : x_47.toInt = y_13.toInt + 1 := by omega
        clear l_47 u_47
        have g_49 := z_rng (A_15 40 (x1.toInt + 21).toNat)
        have hz_50 : (A_44 40 (x1.toInt + 21).toNat).toInt = (A 40 (x1.toInt + 21).toNat).toInt - 1 := by rw [hE_44, va_up_self, pk_un (by omega)]; exact iv_15_2
        exact ih_14 A_44 _ _ x_47 _ (by omega) (by omega) (by omega) hz_50 (shL.s iv_15_3 hb0.1 (by omega) (by omega) hE_44 rfl) FA FC hT hP hS (lv_sub hl [0, 1, 2, 3] rfl)
  have g_51 := z_rng x2
  have hz_52 : (A_10 40 (x1.toInt + 21).toNat).toInt = (A 40 (x1.toInt + 21).toNat).toInt - 1 := by rw [hE_10, va_up_self, pk_us]; omega
  have hw_52 : ∀ j : Int, 0 ≤ j → j < 60 → A_10 40 (x1.toInt + j + 170).toNat = A 40 (x1.toInt + j + 170).toNat := fun j h1 h2 => by rw [hE_10, va_up_self, pk_un (by omega)]
  exact L_15_14 _ A_10 _ _ x2 _ (Nat.lt_succ_self _) (by omega) (by omega) hz_52 (shL.z hw_52 (by omega)) FA FC hT hP hS (lv_sub hl [0, 1, 2, 3] rfl)
