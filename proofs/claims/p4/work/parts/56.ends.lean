set_option maxHeartbeats 4000000 in
set_option maxRecDepth 100000 in
theorem c_X12_endDeal (l : Launch) (D : va_G) (K : zK) (hM : mK K) (f : Nat → Int32) (A : Nat → Nat → Int32) (hT : mT f A) (a0 : Nat) (ha0 : a0 ∈ zl K) (hk0 : zk K a0 = 11) (x1 : Int32) (x2 : Int32) (hp0 : zRow x1.toInt) (hp1 : (f 11).toInt ≤ 1970000000) (hp2 : (f 9).toInt ≤ 1970000000) : Met l yX12_endDeal (zc yX12_endDeal cX12_endDeal 7 none) (rmd 2) (va_Pc [.ref a0, .int x1, .int x2] (zB D K (mV K f A))) (mQv D K (fun f' A' => mT f' A' ∧ (∀ k, k ∉ ([40, 48, 50] : List Nat) → A' k = A k) ∧ (∀ k, k ∉ ([9, 11] : List Nat) → f' k = f k) ∧ fC (A 40) (A' 40) x1.toInt ([(5, 5), (9, 9), (39, 42)] : List (Int × Int)) ∧ (f 9).toInt ≤ (f' 9).toInt ∧ (f' 9).toInt ≤ (f 9).toInt + 2 ∧ (f 11).toInt ≤ (f' 11).toInt ∧ (f' 11).toInt ≤ (f 11).toInt + 6 ∧ ((f 12).toInt ≠ 0 → (f' 11).toInt = (f 11).toInt) ∧ (rowP (A 40) x1.toInt → rowN (A' 40) x1.toInt))) 0 0 (zA K) := by
  refine zin (by decide) (Nat.le_of_ble_eq_true rfl) ?_
  intro p e s m args below meth c ls Q hQ C hr hlk hP hs hl
  have C : CallFix p m c cX12_endDeal 7 s args zw RX12 := C
  obtain ⟨hx, hb, hml, hown, hts⟩ := id C
  have hO := hM.1
  have hS : va_S (zA K) s.heap s.heap [] := va_S.rf
  have FA : ∀ k, k ∉ ([40, 48, 50] : List Nat) → A k = A k := fun _ _ => rfl
  have FF : ∀ k, k ∉ ([9, 11] : List Nat) → f k = f k := fun _ _ => rfl
  have FC : fC (A 40) (A 40) x1.toInt ([(5, 5), (9, 9), (39, 42)] : List (Int × Int)) := fun _ _ _ => rfl
  have hl : lv_has ls 7 [(0, .ref a0), (1, .int x1), (2, .int x2)] := hl
  have hb0 := hp0.lin
  have tR0 := hT.row hp0
  refine lv_aload_n hx hb dX12_endDeal_0 rfl (lv_at hl 0 rfl) ?_
  refine mg_0 C hs hP ha0 hk0 wf_X12_8 dX12_endDeal_1 ?_
  have hf_1 := hO.r (j := 0) ha0 hk0 (rfl : zX 11 0 = some (40, 47730))
  refine lv_iload_n hx hb dX12_endDeal_4 rfl (lv_at hl 1 rfl) ?_
  refine lv_iconst (v := 5) hx hb dX12_endDeal_5 (by decide) ?_
  refine lv_iadd hx hb dX12_endDeal_6 ?_
  refine lv_topi (fun x_2 ex_2 => ?_)
  refine lv_iconst (v := 2) hx hb dX12_endDeal_7 (by decide) ?_
  have hi_hr_3 : zEq x_2.toInt (x1.toInt + 5) := by
    have g_4 := z_rng x1
    obtain ⟨f_2, l_2, u_2⟩ := z_add ex_2 rfl ti_5
    try replace f_2 : x_2.toInt = x1.toInt + 5 := by omega
    clear l_2 u_2
    show x_2.toInt = (x1.toInt + 5)
    omega
  have hl_hr_3 : (5 : Int) ≤ 5 ∧ 5 ≤ (5 : Int) := by decide
  have hid_hr_3 : (x1.toInt + 5) = x1.toInt + (5) := by simp only [Int.add_assoc, Int.add_sub_assoc]
  have hr_3 := z_cell (lo := 2) (hi := 8) hp0 hi_hr_3 hid_hr_3 hl_hr_3 (by decide)
  replace hid_hr_3 : zEq (x1.toInt + 5) (x1.toInt + (5)) := hid_hr_3
  have hin_5 : vp_in x_2 (zn K (zr K a0 0)) := vp_in_iff.mpr (by rw [(hf_1.2.2 (by decide))]; exact hr_3.in)
  refine mst_40 C hM hs hP hS hf_1.1 hT hf_1.2.1 hin_5 (tp_2 hr_3) dX12_endDeal_8 (fun A_6 H locs hE_6 hT hP hS => ?_)
  have ep_7 : x_2.toNatClampNeg = (x1.toInt + 5).toNat := z_posE hi_hr_3
  rw [ep_7] at hE_6
  clear ep_7
  have FA := frA FA (frAu hE_6) (by decide)
  have FC := fC.tr FC (fC.st (b := x1.toInt) (lo := 5) (hi := 5) hE_6 hb0.1 (by decide) hid_hr_3 hl_hr_3) (by decide)
  refine lv_aload_n hx hb dX12_endDeal_9 rfl (lv_at hl 0 rfl) ?_
  refine mg_0 C hs hP ha0 hk0 wf_X12_8 dX12_endDeal_10 ?_
  refine lv_iload_n hx hb dX12_endDeal_13 rfl (lv_at hl 1 rfl) ?_
  refine lv_bipush (v := 9) hx hb dX12_endDeal_14 (by decide) ?_
  refine lv_iadd hx hb dX12_endDeal_16 ?_
  refine lv_topi (fun x_8 ex_8 => ?_)
  refine lv_iconst (v := (-1)) hx hb dX12_endDeal_17 (by decide) ?_
  have hi_hr_9 : zEq x_8.toInt (x1.toInt + 9) := by
    have g_10 := z_rng x1
    obtain ⟨f_8, l_8, u_8⟩ := z_add ex_8 rfl ti_9
    try replace f_8 : x_8.toInt = x1.toInt + 9 := by omega
    clear l_8 u_8
    show x_8.toInt = (x1.toInt + 9)
    omega
  have hl_hr_9 : (9 : Int) ≤ 9 ∧ 9 ≤ (9 : Int) := by decide
  have hid_hr_9 : (x1.toInt + 9) = x1.toInt + (9) := by simp only [Int.add_assoc, Int.add_sub_assoc]
  have hr_9 := z_cell (lo := 9) (hi := 9) hp0 hi_hr_9 hid_hr_9 hl_hr_9 (by decide)
  replace hid_hr_9 : zEq (x1.toInt + 9) (x1.toInt + (9)) := hid_hr_9
  have hin_11 : vp_in x_8 (zn K (zr K a0 0)) := vp_in_iff.mpr (by rw [(hf_1.2.2 (by decide))]; exact hr_9.in)
  refine mst_40 C hM hs hP hS hf_1.1 hT hf_1.2.1 hin_11 (tp_9 hr_9 (show -1 ≤ ((-1) : Int32).toInt ∧ ((-1) : Int32).toInt ≤ 3 from by rw [ti_m1]; omega)) dX12_endDeal_18 (fun A_12 H locs hE_12 hT hP hS => ?_)
  have ep_13 : x_8.toNatClampNeg = (x1.toInt + 9).toNat := z_posE hi_hr_9
  rw [ep_13] at hE_12
  clear ep_13
  have FA := frA FA (frAu hE_12) (by decide)
  have FC := fC.tr FC (fC.st (b := x1.toInt) (lo := 9) (hi := 9) hE_12 hb0.1 (by decide) hid_hr_9 hl_hr_9) (by decide)
  refine lv_iconst (v := 0) hx hb dX12_endDeal_19 (by decide) ?_
  refine lv_istore_n (lv' := [(3, .int 0), (0, .ref a0), (1, .int x1), (2, .int x2)]) hx hb dX12_endDeal_20 rfl hl (by decide) rfl (fun ls hl => ?_)
  have L_21_15 : ∀ (n_15 : Nat) (f_16 : Nat → Int32) (A_16 : Nat → Nat → Int32) (H : Heap) (locs : List Loc) (y_14 : Int32) (ls : Array Slot), (2147483648 - y_14.toInt).toNat < n_15 → 0 ≤ y_14.toInt → y_14.toInt ≤ 2 → (A_16 40 (x1.toInt + 5).toNat).toInt = 2 → (f 11).toInt ≤ (f_16 11).toInt → (f_16 11).toInt ≤ (f 11).toInt + 3 * y_14.toInt → (f 9).toInt ≤ (f_16 9).toInt → (f_16 9).toInt ≤ (f 9).toInt + y_14.toInt → ((f 11).toInt ≤ (f_16 11).toInt ∧ (f_16 11).toInt ≤ (f 11).toInt + 6) → zHid ((f 12).toInt ≠ 0 → (f_16 11).toInt = (f 11).toInt) → ((f 9).toInt ≤ (f_16 9).toInt ∧ (f_16 9).toInt ≤ (f 9).toInt + 2) → (∀ k, k ∉ ([40, 48, 50] : List Nat) → A_16 k = A k) → fC (A 40) (A_16 40) x1.toInt ([(5, 5), (9, 9), (39, 42)] : List (Int × Int)) → (∀ k, k ∉ ([9, 11] : List Nat) → f_16 k = f k) → mT f_16 A_16 → va_P D vwCl (zW K (mV K f_16 A_16)) H → va_S (zA K) s.heap H locs → lv_has ls 7 [(3, .int y_14), (0, .ref a0), (1, .int x1), (2, .int x2)] → W p l e (rmd 2) s m args below meth c H locs 0 0 Q (F0 m 21 ls []) := by
    intro n_15
    induction n_15 with
    | zero => intro f_16 A_16 H locs y_14 ls hm_15; exact absurd hm_15 (Nat.not_lt_zero _)
    | succ n_15 ih_15 =>
      intro f_16 A_16 H locs y_14 ls hm_15 iv_16_0 iv_16_1 iv_16_2 iv_16_3 iv_16_4 iv_16_5 iv_16_6 iv_16_7 iv_16_8 iv_16_9 FA_16 FC_16 FF_16 hT hP hS hl
      have FA := FA_16
      have FC := FC_16
      have FF := FF_16
      refine lv_iload_n hx hb dX12_endDeal_21 rfl (lv_at hl 0 rfl) ?_
      refine lv_iconst (v := 2) hx hb dX12_endDeal_22 (by decide) ?_
      refine bi_ge (tgt := 141) hx hb rfl ti_2 dX12_endDeal_23 (by decide) (fun c_18 => ?_) (fun c_18 => ?_)
      · skip
        exact maV hQ hx hb hr hlk hP hS ⟨hT, FA, FF, FC, ⟨by omega, by omega, by omega, by omega, fun h9 => by have hq0 := iv_16_8 h9; omega, fun h9 => rowN.d2 (h9.fw tR0 hb0.1 FC (wz_of FC hb0.1 (by decide)) (by decide) (by decide) (by decide) (by decide) (by decide)) (by rw [iv_16_2]; decide)⟩⟩ dX12_endDeal_141
      · skip
        refine lv_aload_n hx hb dX12_endDeal_26 rfl (lv_at hl 1 rfl) ?_
        refine lv_iload_n hx hb dX12_endDeal_27 rfl (lv_at hl 2 rfl) ?_
        refine lv_iload_n hx hb dX12_endDeal_28 rfl (lv_at hl 0 rfl) ?_
        have g_19 := z_rng x1
        have g_20 := z_rng y_14
        have hq_21 : 0 ≤ y_14.toInt ∧ y_14.toInt ≤ 1 := by (first | assumption | omega | (intros; omega))
        have hq_22 : (f_16 11).toInt ≤ 1980000000 := by (first | assumption | omega | (intros; omega))
        refine mcI (zrV (As := [.int x1, .int y_14]) (b := a0) (rest := []) C hs hP hS (c_X12_settle l D K hM f_16 A_16 hT a0 ha0 hk0 x1 y_14 hp0 hq_21 hq_22) m_X12_settle wm_X12_229 (zrecv hs hP ha0 (zF_11 hk0) rfl) ⟨by decide, by decide⟩ hl.1 (Nat.le_of_ble_eq_true rfl) dX12_endDeal_29) hS (fun x_23 f_23 A_23 H locs p_23 hP hS => ?_)
        obtain ⟨hT, hA_23, hF_23, pp_23⟩ := p_23
        have pp_23 : (f_16 11).toInt ≤ (f_23 11).toInt ∧ (f_23 11).toInt ≤ (f_16 11).toInt + 3 ∧ ((f_16 12).toInt ≠ 0 → (f_23 11).toInt = (f_16 11).toInt) := pp_23
        have ev_24 : f_16 12 = f 12 := by rw [FF_16 12 (by decide)]
        rw [ev_24] at pp_23
        have pa_23 := pp_23.1
        have pb_23 := pp_23.2.1
        have qq_23 := zHid.mk pp_23.2.2
        clear pp_23
        have FA := frA FA hA_23 (by decide)
        have FF := frF FF hF_23 (by decide)
        have FC := fC.eq FC (hA_23 40 (by decide))
        refine lv_istore (lv' := [(4, .int x_23), (3, .int y_14), (0, .ref a0), (1, .int x1), (2, .int x2)]) hx hb dX12_endDeal_32 hl (by decide) rfl (fun ls hl => ?_)
        refine lv_aload_n hx hb dX12_endDeal_34 rfl (lv_at hl 2 rfl) ?_
        refine mg_0 C hs hP ha0 hk0 wf_X12_8 dX12_endDeal_35 ?_
        refine lv_iload_n hx hb dX12_endDeal_38 rfl (lv_at hl 3 rfl) ?_
        refine lv_bipush (v := 35) hx hb dX12_endDeal_39 (by decide) ?_
        refine lv_iadd hx hb dX12_endDeal_41 ?_
        refine lv_topi (fun x_25 ex_25 => ?_)
        refine lv_iload_n hx hb dX12_endDeal_42 rfl (lv_at hl 1 rfl) ?_
        refine lv_iadd hx hb dX12_endDeal_43 ?_
        refine lv_topi (fun x_26 ex_26 => ?_)
        have hi_hr_27 : zEq x_26.toInt (x1.toInt + y_14.toInt + 35) := by
          obtain ⟨f_25, l_25, u_25⟩ := z_add ex_25 rfl ti_35
          try replace f_25 : x_25.toInt = x1.toInt + 35 := by omega
          clear l_25 u_25
          obtain ⟨f_26, l_26, u_26⟩ := z_add ex_26 rfl rfl
          try replace f_26 : x_26.toInt = x_25.toInt + y_14.toInt := by omega
          clear l_26 u_26
          show x_26.toInt = (x1.toInt + y_14.toInt + 35)
          omega
        have hl_hr_27 : 35 ≤ y_14.toInt + 35 ∧ y_14.toInt + 35 ≤ 38 := by
          omega
        have hid_hr_27 : (x1.toInt + y_14.toInt + 35) = x1.toInt + (y_14.toInt + 35) := by simp only [Int.add_assoc, Int.add_sub_assoc]
        have hr_27 := z_cell (lo := 35) (hi := 38) hp0 hi_hr_27 hid_hr_27 hl_hr_27 (by decide)
        replace hid_hr_27 : zEq (x1.toInt + y_14.toInt + 35) (x1.toInt + (y_14.toInt + 35)) := hid_hr_27
        have hin_28 : vp_in x_26 (zn K (zr K a0 0)) := vp_in_iff.mpr (by rw [(hf_1.2.2 (by decide))]; exact hr_27.in)
        refine mld_40 C hs hP hf_1.1 hf_1.2.1 hin_28 dX12_endDeal_44 ?_
        have ep_29 : x_26.toNatClampNeg = (x1.toInt + y_14.toInt + 35).toNat := z_posE hi_hr_27
        rw [ep_29]
        obtain ⟨f_25, l_25, u_25⟩ := z_add ex_25 rfl ti_35
        try replace f_25 : x_25.toInt = x1.toInt + 35 := by omega
        clear l_25 u_25
        obtain ⟨f_26, l_26, u_26⟩ := z_add ex_26 rfl rfl
        try replace f_26 : x_26.toInt = x_25.toInt + y_14.toInt := by omega
        clear l_26 u_26
        have hc_30 := FC_16.ar (by omega) (lo := 35) (hi := 38) (by decide) (x1.toInt + y_14.toInt + 35) (by decide) (by omega) (by omega)
        have ev_31 : A_23 40 (x1.toInt + y_14.toInt + 35).toNat = A 40 (x1.toInt + y_14.toInt + 35).toNat := by rw [hA_23 40 (by decide), hc_30]
        have tv_32 := rv_35 hT hr_27
        rw [ep_29] at tv_32
        rw [ev_31] at tv_32
        rw [ev_31]
        clear ep_29
        refine lv_aload_n hx hb dX12_endDeal_45 rfl (lv_at hl 2 rfl) ?_
        refine mg_0 C hs hP ha0 hk0 wf_X12_8 dX12_endDeal_46 ?_
        refine lv_iload_n hx hb dX12_endDeal_49 rfl (lv_at hl 3 rfl) ?_
        refine lv_bipush (v := 35) hx hb dX12_endDeal_50 (by decide) ?_
        refine lv_iadd hx hb dX12_endDeal_52 ?_
        refine lv_topi (fun x_33 ex_33 => ?_)
        refine lv_iload_n hx hb dX12_endDeal_53 rfl (lv_at hl 1 rfl) ?_
        refine lv_iadd hx hb dX12_endDeal_54 ?_
        refine lv_topi (fun x_34 ex_34 => ?_)
        refine lv_iconst (v := 2) hx hb dX12_endDeal_55 (by decide) ?_
        refine lv_iadd hx hb dX12_endDeal_56 ?_
        refine lv_topi (fun x_35 ex_35 => ?_)
        have hi_hr_36 : zEq x_35.toInt (x1.toInt + y_14.toInt + 37) := by
          obtain ⟨f_33, l_33, u_33⟩ := z_add ex_33 rfl ti_35
          try replace f_33 : x_33.toInt = x1.toInt + 35 := by omega
          clear l_33 u_33
          obtain ⟨f_34, l_34, u_34⟩ := z_add ex_34 rfl rfl
          try replace f_34 : x_34.toInt = x_33.toInt + y_14.toInt := by omega
          clear l_34 u_34
          obtain ⟨f_35, l_35, u_35⟩ := z_add ex_35 rfl ti_2
          try replace f_35 : x_35.toInt = x_34.toInt + 2 := by omega
          clear l_35 u_35
          show x_35.toInt = (x1.toInt + y_14.toInt + 37)
          omega
        have hl_hr_36 : 35 ≤ y_14.toInt + 37 ∧ y_14.toInt + 37 ≤ 38 := by
          omega
        have hid_hr_36 : (x1.toInt + y_14.toInt + 37) = x1.toInt + (y_14.toInt + 37) := by simp only [Int.add_assoc, Int.add_sub_assoc]
        have hr_36 := z_cell (lo := 35) (hi := 38) hp0 hi_hr_36 hid_hr_36 hl_hr_36 (by decide)
        replace hid_hr_36 : zEq (x1.toInt + y_14.toInt + 37) (x1.toInt + (y_14.toInt + 37)) := hid_hr_36
        have hin_37 : vp_in x_35 (zn K (zr K a0 0)) := vp_in_iff.mpr (by rw [(hf_1.2.2 (by decide))]; exact hr_36.in)
        refine mld_40 C hs hP hf_1.1 hf_1.2.1 hin_37 dX12_endDeal_57 ?_
        have ep_38 : x_35.toNatClampNeg = (x1.toInt + y_14.toInt + 37).toNat := z_posE hi_hr_36
        rw [ep_38]
        obtain ⟨f_33, l_33, u_33⟩ := z_add ex_33 rfl ti_35
        try replace f_33 : x_33.toInt = x1.toInt + 35 := by omega
        clear l_33 u_33
        obtain ⟨f_34, l_34, u_34⟩ := z_add ex_34 rfl rfl
        try replace f_34 : x_34.toInt = x_33.toInt + y_14.toInt := by omega
        clear l_34 u_34
        obtain ⟨f_35, l_35, u_35⟩ := z_add ex_35 rfl ti_2
        try replace f_35 : x_35.toInt = x_34.toInt + 2 := by omega
        clear l_35 u_35
        have hc_39 := FC_16.ar (by omega) (lo := 35) (hi := 38) (by decide) (x1.toInt + y_14.toInt + 37) (by decide) (by omega) (by omega)
        have ev_40 : A_23 40 (x1.toInt + y_14.toInt + 37).toNat = A 40 (x1.toInt + y_14.toInt + 37).toNat := by rw [hA_23 40 (by decide), hc_39]
        have tv_41 := rv_35 hT hr_36
        rw [ep_38] at tv_41
        rw [ev_40] at tv_41
        rw [ev_40]
        clear ep_38
        refine lv_iadd hx hb dX12_endDeal_58 ?_
        refine lv_topi (fun x_42 ex_42 => ?_)
        refine lv_istore (lv' := [(5, .int x_42), (4, .int x_23), (3, .int y_14), (0, .ref a0), (1, .int x1), (2, .int x2)]) hx hb dX12_endDeal_59 hl (by decide) rfl (fun ls hl => ?_)
        refine lv_iload hx hb dX12_endDeal_61 (lv_at hl 0 rfl) ?_
        refine bz_ne (tgt := 75) hx hb rfl dX12_endDeal_63 (by decide) (fun c_43 => ?_) (fun c_43 => ?_)
        · skip
          refine lv_iload_n hx hb dX12_endDeal_75 rfl (lv_at hl 2 rfl) ?_
          refine lv_istore (lv' := [(6, .int y_14), (5, .int x_42), (4, .int x_23), (3, .int y_14), (0, .ref a0), (1, .int x1), (2, .int x2)]) hx hb dX12_endDeal_76 hl (by decide) rfl (fun ls hl => ?_)
          have L_78_45 : ∀ (n_45 : Nat) (A_46 : Nat → Nat → Int32) (H : Heap) (locs : List Loc) (y_44 : Int32) (ls : Array Slot), (2147483648 - y_44.toInt).toNat < n_45 → 0 ≤ y_44.toInt → (A_46 40 (x1.toInt + 5).toNat).toInt = 2 → (∀ k, k ∉ ([40, 48, 50] : List Nat) → A_46 k = A k) → fC (A 40) (A_46 40) x1.toInt ([(5, 5), (9, 9), (39, 42)] : List (Int × Int)) → mT f_23 A_46 → va_P D vwCl (zW K (mV K f_23 A_46)) H → va_S (zA K) s.heap H locs → lv_has ls 7 [(6, .int y_44), (5, .int x_42), (4, .int x_23), (3, .int y_14), (0, .ref a0), (1, .int x1), (2, .int x2)] → W p l e (rmd 2) s m args below meth c H locs 0 0 Q (F0 m 78 ls []) := by
            intro n_45
            induction n_45 with
            | zero => intro A_46 H locs y_44 ls hm_45; exact absurd hm_45 (Nat.not_lt_zero _)
            | succ n_45 ih_45 =>
              intro A_46 H locs y_44 ls hm_45 iv_46_0 iv_46_1 FA_46 FC_46 hT hP hS hl
              have FA := FA_46
              have FC := FC_46
              refine lv_iload hx hb dX12_endDeal_78 (lv_at hl 0 rfl) ?_
              refine lv_iconst (v := 4) hx hb dX12_endDeal_80 (by decide) ?_
              have J_135_93 : ∀ (ls : Array Slot), lv_has ls 7 [(0, .ref a0), (1, .int x1), (2, .int x2), (3, .int y_14), (4, .int x_23), (5, .int x_42), (6, .int y_44)] → W p l e (rmd 2) s m args below meth c H locs 0 0 Q (F0 m 135 ls []) := by
                intro ls hl
                obtain ⟨x_95, ex_95⟩ : ∃ y : Int32, y = y_14 + 1 := ⟨_, rfl⟩
                refine lv_iinc (v := x_95) (lv' := [(3, .int x_95), (0, .ref a0), (1, .int x1), (2, .int x2), (4, .int x_23), (5, .int x_42), (6, .int y_44)]) hx hb dX12_endDeal_135 hl (k := 3) rfl (by rw [ex_95]; rfl) (by decide) rfl (fun ls hl => ?_)
                refine lv_goto (tgt := 21) hx hb dX12_endDeal_138 (by decide) ?_
                obtain ⟨f_95, l_95, u_95⟩ := z_add ex_95 rfl ti_1
                try replace f_95 : x_95.toInt = y_14.toInt + 1 := by omega
                clear l_95 u_95
                have ev_96 : f_23 9 = f_16 9 := by rw [hF_23 9 (by decide)]
                have ev_97 : f_23 9 = f_16 9 := by rw [hF_23 9 (by decide)]
                exact ih_15 f_23 A_46 _ _ x_95 _ (by omega) (by omega) (by omega) iv_46_1 (by omega) (by omega) (by rw [ev_96] <;> omega) (by rw [ev_96] <;> omega) (by omega) (zHid.mk (fun h9 => by have hq0 := iv_16_8 h9; have hq1 := qq_23 h9; omega)) (by rw [ev_97] <;> omega) FA FC FF hT hP hS (lv_sub hl [0, 1, 2, 3] rfl)
              refine bi_ge (tgt := 135) hx hb rfl ti_4 dX12_endDeal_81 (by decide) (fun c_48 => ?_) (fun c_48 => ?_)
              · skip
                exact J_135_93 _ (lv_sub hl [4, 5, 6, 3, 2, 1, 0] rfl)
              · skip
                refine lv_iload hx hb dX12_endDeal_84 (lv_at hl 1 rfl) ?_
                refine bz_le (tgt := 135) hx hb rfl dX12_endDeal_86 (by decide) (fun c_98 => ?_) (fun c_98 => ?_)
                · skip
                  exact J_135_93 _ (lv_sub hl [4, 5, 6, 3, 2, 1, 0] rfl)
                · skip
                  refine lv_aload_n hx hb dX12_endDeal_89 rfl (lv_at hl 4 rfl) ?_
                  refine mg_0 C hs hP ha0 hk0 wf_X12_8 dX12_endDeal_90 ?_
                  refine lv_iload_n hx hb dX12_endDeal_93 rfl (lv_at hl 5 rfl) ?_
                  refine lv_bipush (v := 39) hx hb dX12_endDeal_94 (by decide) ?_
                  refine lv_iadd hx hb dX12_endDeal_96 ?_
                  refine lv_topi (fun x_99 ex_99 => ?_)
                  refine lv_iload hx hb dX12_endDeal_97 (lv_at hl 0 rfl) ?_
                  refine lv_iadd hx hb dX12_endDeal_99 ?_
                  refine lv_topi (fun x_100 ex_100 => ?_)
                  refine lv_dup2_11 hx hb dX12_endDeal_100 rfl rfl ?_
                  have hi_hr_101 : zEq x_100.toInt (x1.toInt + y_44.toInt + 39) := by
                    obtain ⟨f_99, l_99, u_99⟩ := z_add ex_99 rfl ti_39
                    try replace f_99 : x_99.toInt = x1.toInt + 39 := by omega
                    clear l_99 u_99
                    have g_102 := z_rng y_44
                    obtain ⟨f_100, l_100, u_100⟩ := z_add ex_100 rfl rfl
                    try replace f_100 : x_100.toInt = x_99.toInt + y_44.toInt := by omega
                    clear l_100 u_100
                    show x_100.toInt = (x1.toInt + y_44.toInt + 39)
                    omega
                  have hl_hr_101 : 39 ≤ y_44.toInt + 39 ∧ y_44.toInt + 39 ≤ 42 := by
                    have g_103 := z_rng y_44
                    have g_104 := z_rng (A 40 (x1.toInt + y_14.toInt + 35).toNat)
                    have g_105 := z_rng (A 40 (x1.toInt + y_14.toInt + 37).toNat)
                    obtain ⟨f_42, l_42, u_42⟩ := z_add ex_42 rfl rfl
                    try replace f_42 : x_42.toInt = (A 40 (x1.toInt + y_14.toInt + 35).toNat).toInt + (A 40 (x1.toInt + y_14.toInt + 37).toNat).toInt := by omega
                    clear l_42 u_42
                    omega
                  have hid_hr_101 : (x1.toInt + y_44.toInt + 39) = x1.toInt + (y_44.toInt + 39) := by simp only [Int.add_assoc, Int.add_sub_assoc]
                  have hr_101 := z_cell (lo := 39) (hi := 42) hp0 hi_hr_101 hid_hr_101 hl_hr_101 (by decide)
                  replace hid_hr_101 : zEq (x1.toInt + y_44.toInt + 39) (x1.toInt + (y_44.toInt + 39)) := hid_hr_101
                  have hin_106 : vp_in x_100 (zn K (zr K a0 0)) := vp_in_iff.mpr (by rw [(hf_1.2.2 (by decide))]; exact hr_101.in)
                  refine mld_40 C hs hP hf_1.1 hf_1.2.1 hin_106 dX12_endDeal_101 ?_
                  have ep_107 : x_100.toNatClampNeg = (x1.toInt + y_44.toInt + 39).toNat := z_posE hi_hr_101
                  rw [ep_107]
                  clear ep_107
                  refine lv_aload_n hx hb dX12_endDeal_102 rfl (lv_at hl 4 rfl) ?_
                  refine mg_0 C hs hP ha0 hk0 wf_X12_8 dX12_endDeal_103 ?_
                  refine lv_iload_n hx hb dX12_endDeal_106 rfl (lv_at hl 5 rfl) ?_
                  refine lv_bipush (v := 35) hx hb dX12_endDeal_107 (by decide) ?_
                  refine lv_iadd hx hb dX12_endDeal_109 ?_
                  refine lv_topi (fun x_108 ex_108 => ?_)
                  refine lv_iload hx hb dX12_endDeal_110 (lv_at hl 0 rfl) ?_
                  refine lv_iadd hx hb dX12_endDeal_112 ?_
                  refine lv_topi (fun x_109 ex_109 => ?_)
                  have hi_hr_110 : zEq x_109.toInt (x1.toInt + y_44.toInt + 35) := by
                    obtain ⟨f_108, l_108, u_108⟩ := z_add ex_108 rfl ti_35
                    try replace f_108 : x_108.toInt = x1.toInt + 35 := by omega
                    clear l_108 u_108
                    have g_111 := z_rng y_44
                    obtain ⟨f_109, l_109, u_109⟩ := z_add ex_109 rfl rfl
                    try replace f_109 : x_109.toInt = x_108.toInt + y_44.toInt := by omega
                    clear l_109 u_109
                    show x_109.toInt = (x1.toInt + y_44.toInt + 35)
                    omega
                  have hl_hr_110 : 35 ≤ y_44.toInt + 35 ∧ y_44.toInt + 35 ≤ 38 := by
                    have g_112 := z_rng y_44
                    have g_113 := z_rng (A 40 (x1.toInt + y_14.toInt + 35).toNat)
                    have g_114 := z_rng (A 40 (x1.toInt + y_14.toInt + 37).toNat)
                    obtain ⟨f_42, l_42, u_42⟩ := z_add ex_42 rfl rfl
                    try replace f_42 : x_42.toInt = (A 40 (x1.toInt + y_14.toInt + 35).toNat).toInt + (A 40 (x1.toInt + y_14.toInt + 37).toNat).toInt := by omega
                    clear l_42 u_42
                    omega
                  have hid_hr_110 : (x1.toInt + y_44.toInt + 35) = x1.toInt + (y_44.toInt + 35) := by simp only [Int.add_assoc, Int.add_sub_assoc]
                  have hr_110 := z_cell (lo := 35) (hi := 38) hp0 hi_hr_110 hid_hr_110 hl_hr_110 (by decide)
                  replace hid_hr_110 : zEq (x1.toInt + y_44.toInt + 35) (x1.toInt + (y_44.toInt + 35)) := hid_hr_110
                  have hin_115 : vp_in x_109 (zn K (zr K a0 0)) := vp_in_iff.mpr (by rw [(hf_1.2.2 (by decide))]; exact hr_110.in)
                  refine mld_40 C hs hP hf_1.1 hf_1.2.1 hin_115 dX12_endDeal_113 ?_
                  have ep_116 : x_109.toNatClampNeg = (x1.toInt + y_44.toInt + 35).toNat := z_posE hi_hr_110
                  rw [ep_116]
                  obtain ⟨f_108, l_108, u_108⟩ := z_add ex_108 rfl ti_35
                  try replace f_108 : x_108.toInt = x1.toInt + 35 := by omega
                  clear l_108 u_108
                  have g_118 := z_rng y_44
                  obtain ⟨f_109, l_109, u_109⟩ := z_add ex_109 rfl rfl
                  try replace f_109 : x_109.toInt = x_108.toInt + y_44.toInt := by omega
                  clear l_109 u_109
                  have hc_117 := FC_46.ar (by omega) (lo := 35) (hi := 38) (by decide) (x1.toInt + y_44.toInt + 35) (by decide) (by omega) (by omega)
                  have ev_119 : A_46 40 (x1.toInt + y_44.toInt + 35).toNat = A 40 (x1.toInt + y_44.toInt + 35).toNat := by rw [hc_117]
                  have tv_120 := rv_35 hT hr_110
                  rw [ep_116] at tv_120
                  rw [ev_119] at tv_120
                  rw [ev_119]
                  clear ep_116
                  refine lv_iconst (v := 1) hx hb dX12_endDeal_114 (by decide) ?_
                  have J_127_127 : ∀ (y_126 : Int32) (ls : Array Slot), lv_has ls 7 [(0, .ref a0), (1, .int x1), (2, .int x2), (3, .int y_14), (4, .int x_23), (5, .int x_42), (6, .int y_44)] → W p l e (rmd 2) s m args below meth c H locs 0 0 Q (F0 m 127 ls [.int y_126, .int (A_46 40 (x1.toInt + y_44.toInt + 39).toNat), .int x_100, .ref (zr K a0 0)]) := by
                    intro y_126 ls hl
                    refine lv_iadd hx hb dX12_endDeal_127 ?_
                    refine lv_topi (fun x_129 ex_129 => ?_)
                    have hin_130 : vp_in x_100 (zn K (zr K a0 0)) := vp_in_iff.mpr (by rw [(hf_1.2.2 (by decide))]; exact hr_101.in)
                    refine mst_40 C hM hs hP hS hf_1.1 hT hf_1.2.1 hin_130 (tp_39 hr_101) dX12_endDeal_128 (fun A_131 H locs hE_131 hT hP hS => ?_)
                    have ep_132 : x_100.toNatClampNeg = (x1.toInt + y_44.toInt + 39).toNat := z_posE hi_hr_101
                    rw [ep_132] at hE_131
                    clear ep_132
                    have FA := frA FA (frAu hE_131) (by decide)
                    have FC := fC.tr FC (fC.st (b := x1.toInt) (lo := 39) (hi := 42) hE_131 hb0.1 (by decide) hid_hr_101 hl_hr_101) (by decide)
                    obtain ⟨x_133, ex_133⟩ : ∃ y : Int32, y = y_44 + 2 := ⟨_, rfl⟩
                    refine lv_iinc (v := x_133) (lv' := [(6, .int x_133), (0, .ref a0), (1, .int x1), (2, .int x2), (3, .int y_14), (4, .int x_23), (5, .int x_42)]) hx hb dX12_endDeal_129 hl (k := 6) rfl (by rw [ex_133]; rfl) (by decide) rfl (fun ls hl => ?_)
                    refine lv_goto (tgt := 78) hx hb dX12_endDeal_132 (by decide) ?_
                    obtain ⟨f_133, l_133, u_133⟩ := z_add ex_133 rfl ti_2
                    try replace f_133 : x_133.toInt = y_44.toInt + 2 := by omega
                    clear l_133 u_133
                    have g_134 := z_rng x_42
                    have g_135 := z_rng (A 40 (x1.toInt + y_14.toInt + 35).toNat)
                    have g_136 := z_rng (A 40 (x1.toInt + y_14.toInt + 37).toNat)
                    obtain ⟨f_42, l_42, u_42⟩ := z_add ex_42 rfl rfl
                    try replace f_42 : x_42.toInt = (A 40 (x1.toInt + y_14.toInt + 35).toNat).toInt + (A 40 (x1.toInt + y_14.toInt + 37).toNat).toInt := by omega
                    clear l_42 u_42
                    obtain ⟨f_99, l_99, u_99⟩ := z_add ex_99 rfl ti_39
                    try replace f_99 : x_99.toInt = x1.toInt + 39 := by omega
                    clear l_99 u_99
                    obtain ⟨f_100, l_100, u_100⟩ := z_add ex_100 rfl rfl
                    try replace f_100 : x_100.toInt = x_99.toInt + y_44.toInt := by omega
                    clear l_100 u_100
                    have es_137 : A_131 40 (x1.toInt + 5).toNat = A_46 40 (x1.toInt + 5).toNat := by rw [hE_131, va_up_self, pk_un (zNe (i := (x1.toInt + 5)) (j := (x1.toInt + y_44.toInt + 39)) (by omega) (by omega) (by omega))]
                    exact ih_45 A_131 _ _ x_133 _ (by omega) (by omega) (by rw [es_137]; exact iv_46_1) FA FC hT hP hS (lv_sub hl [0, 6, 5, 4, 1, 2, 3] rfl)
                  refine bi_ne (tgt := 126) hx hb rfl ti_1 dX12_endDeal_115 (by decide) (fun c_121 => ?_) (fun c_121 => ?_)
                  · skip
                    refine lv_iconst (v := 0) hx hb dX12_endDeal_126 (by decide) ?_
                    exact J_127_127 0 _ (lv_sub hl [4, 5, 6, 3, 2, 1, 0] rfl)
                  · skip
                    refine lv_iload hx hb dX12_endDeal_118 (lv_at hl 2 rfl) ?_
                    refine lv_iload hx hb dX12_endDeal_120 (lv_at hl 1 rfl) ?_
                    have g_138 := z_rng (A 40 (x1.toInt + y_14.toInt + 35).toNat)
                    have g_139 := z_rng (A 40 (x1.toInt + y_14.toInt + 37).toNat)
                    obtain ⟨f_42, l_42, u_42⟩ := z_add ex_42 rfl rfl
                    try replace f_42 : x_42.toInt = (A 40 (x1.toInt + y_14.toInt + 35).toNat).toInt + (A 40 (x1.toInt + y_14.toInt + 37).toNat).toInt := by omega
                    clear l_42 u_42
                    have hz_140 : ¬ x_42 = 0 := fun h9 => by have h8 := congrArg Int32.toInt h9; rw [ti_0] at h8; omega
                    refine lv_idiv hx hb dX12_endDeal_122 hz_140 ?_
                    refine lv_topi (fun x_141 ex_141 => ?_)
                    refine lv_goto (tgt := 127) hx hb dX12_endDeal_123 (by decide) ?_
                    exact J_127_127 x_141 _ (lv_sub hl [4, 5, 6, 3, 2, 1, 0] rfl)
          have g_142 := z_rng x_42
          have g_143 := z_rng (A 40 (x1.toInt + y_14.toInt + 35).toNat)
          have g_144 := z_rng (A 40 (x1.toInt + y_14.toInt + 37).toNat)
          obtain ⟨f_42, l_42, u_42⟩ := z_add ex_42 rfl rfl
          try replace f_42 : x_42.toInt = (A 40 (x1.toInt + y_14.toInt + 35).toNat).toInt + (A 40 (x1.toInt + y_14.toInt + 37).toNat).toInt := by omega
          clear l_42 u_42
          have es_145 : A_23 40 (x1.toInt + 5).toNat = A_16 40 (x1.toInt + 5).toNat := by rw [hA_23 40 (by decide)]
          exact L_78_45 _ A_23 _ _ y_14 _ (Nat.lt_succ_self _) (by omega) (by rw [es_145]; exact iv_16_2) FA FC hT hP hS (lv_sub hl [0, 1, 2, 3, 4, 5, 6] rfl)
        · skip
          refine lv_aload_n hx hb dX12_endDeal_66 rfl (lv_at hl 3 rfl) ?_
          refine lv_bipush (v := 7) hx hb dX12_endDeal_67 (by decide) ?_
          refine lv_iload_n hx hb dX12_endDeal_69 rfl (lv_at hl 5 rfl) ?_
          refine lv_iload_n hx hb dX12_endDeal_70 rfl (lv_at hl 2 rfl) ?_
          refine lv_iconst (v := 0) hx hb dX12_endDeal_71 (by decide) ?_
          have g_146 := z_rng x2
          have g_147 := z_rng (A 40 (x1.toInt + y_14.toInt + 35).toNat)
          have g_148 := z_rng (A 40 (x1.toInt + y_14.toInt + 37).toNat)
          obtain ⟨f_42, l_42, u_42⟩ := z_add ex_42 rfl rfl
          try replace f_42 : x_42.toInt = (A 40 (x1.toInt + y_14.toInt + 35).toNat).toInt + (A 40 (x1.toInt + y_14.toInt + 37).toNat).toInt := by omega
          clear l_42 u_42
          have ev_150 : f_23 9 = f_16 9 := by rw [hF_23 9 (by decide)]
          have hq_149 : (f_23 9).toInt ≤ 2000000000 := by rw [ev_150] <;> ((try simp only [ti_0, ti_7]); first | assumption | omega | (intros; omega))
          refine mcV (zrV (As := [.int 7, .int x2, .int y_14, .int 0]) (b := a0) (rest := []) C hs hP hS (c_X12_find l D K hM f_23 A_23 hT a0 ha0 hk0 7 x2 y_14 0 hq_149) m_X12_find wm_X12_232 (zrecv hs hP ha0 (zF_11 hk0) rfl) ⟨by decide, by decide⟩ hl.1 (Nat.le_of_ble_eq_true rfl) dX12_endDeal_72) hS (fun f_151 A_151 H locs p_151 hP hS => ?_)
          obtain ⟨hT, hA_151, hF_151, pp_151⟩ := p_151
          have pp_151 : (f_23 9).toInt ≤ (f_151 9).toInt ∧ (f_151 9).toInt ≤ (f_23 9).toInt + 1 := pp_151
          have ev_152 : f_23 9 = f_16 9 := by rw [hF_23 9 (by decide)]
          rw [ev_152] at pp_151
          try simp only [ti_0, ti_7] at pp_151
          have FA := frA FA hA_151 (by decide)
          have FF := frF FF hF_151 (by decide)
          have FC := fC.eq FC (hA_151 40 (by decide))
          refine lv_iload_n hx hb dX12_endDeal_75 rfl (lv_at hl 2 rfl) ?_
          refine lv_istore (lv' := [(6, .int y_14), (5, .int x_42), (4, .int x_23), (3, .int y_14), (0, .ref a0), (1, .int x1), (2, .int x2)]) hx hb dX12_endDeal_76 hl (by decide) rfl (fun ls hl => ?_)
          have L_78_154 : ∀ (n_154 : Nat) (A_155 : Nat → Nat → Int32) (H : Heap) (locs : List Loc) (y_153 : Int32) (ls : Array Slot), (2147483648 - y_153.toInt).toNat < n_154 → 0 ≤ y_153.toInt → (A_155 40 (x1.toInt + 5).toNat).toInt = 2 → (∀ k, k ∉ ([40, 48, 50] : List Nat) → A_155 k = A k) → fC (A 40) (A_155 40) x1.toInt ([(5, 5), (9, 9), (39, 42)] : List (Int × Int)) → mT f_151 A_155 → va_P D vwCl (zW K (mV K f_151 A_155)) H → va_S (zA K) s.heap H locs → lv_has ls 7 [(6, .int y_153), (5, .int x_42), (4, .int x_23), (3, .int y_14), (0, .ref a0), (1, .int x1), (2, .int x2)] → W p l e (rmd 2) s m args below meth c H locs 0 0 Q (F0 m 78 ls []) := by
            intro n_154
            induction n_154 with
            | zero => intro A_155 H locs y_153 ls hm_154; exact absurd hm_154 (Nat.not_lt_zero _)
            | succ n_154 ih_154 =>
              intro A_155 H locs y_153 ls hm_154 iv_155_0 iv_155_1 FA_155 FC_155 hT hP hS hl
              have FA := FA_155
              have FC := FC_155
              refine lv_iload hx hb dX12_endDeal_78 (lv_at hl 0 rfl) ?_
              refine lv_iconst (v := 4) hx hb dX12_endDeal_80 (by decide) ?_
              have J_135_192 : ∀ (ls : Array Slot), lv_has ls 7 [(0, .ref a0), (1, .int x1), (2, .int x2), (3, .int y_14), (4, .int x_23), (5, .int x_42), (6, .int y_153)] → W p l e (rmd 2) s m args below meth c H locs 0 0 Q (F0 m 135 ls []) := by
                intro ls hl
                obtain ⟨x_194, ex_194⟩ : ∃ y : Int32, y = y_14 + 1 := ⟨_, rfl⟩
                refine lv_iinc (v := x_194) (lv' := [(3, .int x_194), (0, .ref a0), (1, .int x1), (2, .int x2), (4, .int x_23), (5, .int x_42), (6, .int y_153)]) hx hb dX12_endDeal_135 hl (k := 3) rfl (by rw [ex_194]; rfl) (by decide) rfl (fun ls hl => ?_)
                refine lv_goto (tgt := 21) hx hb dX12_endDeal_138 (by decide) ?_
                obtain ⟨f_194, l_194, u_194⟩ := z_add ex_194 rfl ti_1
                try replace f_194 : x_194.toInt = y_14.toInt + 1 := by omega
                clear l_194 u_194
                have ev_195 : f_151 11 = f_23 11 := by rw [hF_151 11 (by decide)]
                have ev_196 : f_151 11 = f_23 11 := by rw [hF_151 11 (by decide)]
                exact ih_15 f_151 A_155 _ _ x_194 _ (by omega) (by omega) (by omega) iv_155_1 (by rw [ev_195] <;> omega) (by rw [ev_195] <;> omega) (by omega) (by omega) (by rw [ev_196] <;> omega) (zHid.mk (fun h9 => by have hq0 := iv_16_8 h9; have hq1 := qq_23 h9; rw [ev_196]; omega)) (by omega) FA FC FF hT hP hS (lv_sub hl [0, 1, 2, 3] rfl)
              refine bi_ge (tgt := 135) hx hb rfl ti_4 dX12_endDeal_81 (by decide) (fun c_157 => ?_) (fun c_157 => ?_)
              · skip
                exact J_135_192 _ (lv_sub hl [4, 5, 6, 3, 2, 1, 0] rfl)
              · skip
                refine lv_iload hx hb dX12_endDeal_84 (lv_at hl 1 rfl) ?_
                refine bz_le (tgt := 135) hx hb rfl dX12_endDeal_86 (by decide) (fun c_197 => ?_) (fun c_197 => ?_)
                · skip
                  exact J_135_192 _ (lv_sub hl [4, 5, 6, 3, 2, 1, 0] rfl)
                · skip
                  refine lv_aload_n hx hb dX12_endDeal_89 rfl (lv_at hl 4 rfl) ?_
                  refine mg_0 C hs hP ha0 hk0 wf_X12_8 dX12_endDeal_90 ?_
                  refine lv_iload_n hx hb dX12_endDeal_93 rfl (lv_at hl 5 rfl) ?_
                  refine lv_bipush (v := 39) hx hb dX12_endDeal_94 (by decide) ?_
                  refine lv_iadd hx hb dX12_endDeal_96 ?_
                  refine lv_topi (fun x_198 ex_198 => ?_)
                  refine lv_iload hx hb dX12_endDeal_97 (lv_at hl 0 rfl) ?_
                  refine lv_iadd hx hb dX12_endDeal_99 ?_
                  refine lv_topi (fun x_199 ex_199 => ?_)
                  refine lv_dup2_11 hx hb dX12_endDeal_100 rfl rfl ?_
                  have hi_hr_200 : zEq x_199.toInt (x1.toInt + y_153.toInt + 39) := by
                    obtain ⟨f_198, l_198, u_198⟩ := z_add ex_198 rfl ti_39
                    try replace f_198 : x_198.toInt = x1.toInt + 39 := by omega
                    clear l_198 u_198
                    have g_201 := z_rng y_153
                    obtain ⟨f_199, l_199, u_199⟩ := z_add ex_199 rfl rfl
                    try replace f_199 : x_199.toInt = x_198.toInt + y_153.toInt := by omega
                    clear l_199 u_199
                    show x_199.toInt = (x1.toInt + y_153.toInt + 39)
                    omega
                  have hl_hr_200 : 39 ≤ y_153.toInt + 39 ∧ y_153.toInt + 39 ≤ 42 := by
                    have g_202 := z_rng y_153
                    omega
                  have hid_hr_200 : (x1.toInt + y_153.toInt + 39) = x1.toInt + (y_153.toInt + 39) := by simp only [Int.add_assoc, Int.add_sub_assoc]
                  have hr_200 := z_cell (lo := 39) (hi := 42) hp0 hi_hr_200 hid_hr_200 hl_hr_200 (by decide)
                  replace hid_hr_200 : zEq (x1.toInt + y_153.toInt + 39) (x1.toInt + (y_153.toInt + 39)) := hid_hr_200
                  have hin_203 : vp_in x_199 (zn K (zr K a0 0)) := vp_in_iff.mpr (by rw [(hf_1.2.2 (by decide))]; exact hr_200.in)
                  refine mld_40 C hs hP hf_1.1 hf_1.2.1 hin_203 dX12_endDeal_101 ?_
                  have ep_204 : x_199.toNatClampNeg = (x1.toInt + y_153.toInt + 39).toNat := z_posE hi_hr_200
                  rw [ep_204]
                  clear ep_204
                  refine lv_aload_n hx hb dX12_endDeal_102 rfl (lv_at hl 4 rfl) ?_
                  refine mg_0 C hs hP ha0 hk0 wf_X12_8 dX12_endDeal_103 ?_
                  refine lv_iload_n hx hb dX12_endDeal_106 rfl (lv_at hl 5 rfl) ?_
                  refine lv_bipush (v := 35) hx hb dX12_endDeal_107 (by decide) ?_
                  refine lv_iadd hx hb dX12_endDeal_109 ?_
                  refine lv_topi (fun x_205 ex_205 => ?_)
                  refine lv_iload hx hb dX12_endDeal_110 (lv_at hl 0 rfl) ?_
                  refine lv_iadd hx hb dX12_endDeal_112 ?_
                  refine lv_topi (fun x_206 ex_206 => ?_)
                  have hi_hr_207 : zEq x_206.toInt (x1.toInt + y_153.toInt + 35) := by
                    obtain ⟨f_205, l_205, u_205⟩ := z_add ex_205 rfl ti_35
                    try replace f_205 : x_205.toInt = x1.toInt + 35 := by omega
                    clear l_205 u_205
                    have g_208 := z_rng y_153
                    obtain ⟨f_206, l_206, u_206⟩ := z_add ex_206 rfl rfl
                    try replace f_206 : x_206.toInt = x_205.toInt + y_153.toInt := by omega
                    clear l_206 u_206
                    show x_206.toInt = (x1.toInt + y_153.toInt + 35)
                    omega
                  have hl_hr_207 : 35 ≤ y_153.toInt + 35 ∧ y_153.toInt + 35 ≤ 38 := by
                    have g_209 := z_rng y_153
                    omega
                  have hid_hr_207 : (x1.toInt + y_153.toInt + 35) = x1.toInt + (y_153.toInt + 35) := by simp only [Int.add_assoc, Int.add_sub_assoc]
                  have hr_207 := z_cell (lo := 35) (hi := 38) hp0 hi_hr_207 hid_hr_207 hl_hr_207 (by decide)
                  replace hid_hr_207 : zEq (x1.toInt + y_153.toInt + 35) (x1.toInt + (y_153.toInt + 35)) := hid_hr_207
                  have hin_210 : vp_in x_206 (zn K (zr K a0 0)) := vp_in_iff.mpr (by rw [(hf_1.2.2 (by decide))]; exact hr_207.in)
                  refine mld_40 C hs hP hf_1.1 hf_1.2.1 hin_210 dX12_endDeal_113 ?_
                  have ep_211 : x_206.toNatClampNeg = (x1.toInt + y_153.toInt + 35).toNat := z_posE hi_hr_207
                  rw [ep_211]
                  obtain ⟨f_205, l_205, u_205⟩ := z_add ex_205 rfl ti_35
                  try replace f_205 : x_205.toInt = x1.toInt + 35 := by omega
                  clear l_205 u_205
                  have g_213 := z_rng y_153
                  obtain ⟨f_206, l_206, u_206⟩ := z_add ex_206 rfl rfl
                  try replace f_206 : x_206.toInt = x_205.toInt + y_153.toInt := by omega
                  clear l_206 u_206
                  have hc_212 := FC_155.ar (by omega) (lo := 35) (hi := 38) (by decide) (x1.toInt + y_153.toInt + 35) (by decide) (by omega) (by omega)
                  have ev_214 : A_155 40 (x1.toInt + y_153.toInt + 35).toNat = A 40 (x1.toInt + y_153.toInt + 35).toNat := by rw [hc_212]
                  have tv_215 := rv_35 hT hr_207
                  rw [ep_211] at tv_215
                  rw [ev_214] at tv_215
                  rw [ev_214]
                  clear ep_211
                  refine lv_iconst (v := 1) hx hb dX12_endDeal_114 (by decide) ?_
                  have J_127_220 : ∀ (y_219 : Int32) (ls : Array Slot), lv_has ls 7 [(0, .ref a0), (1, .int x1), (2, .int x2), (3, .int y_14), (4, .int x_23), (5, .int x_42), (6, .int y_153)] → W p l e (rmd 2) s m args below meth c H locs 0 0 Q (F0 m 127 ls [.int y_219, .int (A_155 40 (x1.toInt + y_153.toInt + 39).toNat), .int x_199, .ref (zr K a0 0)]) := by
                    intro y_219 ls hl
                    refine lv_iadd hx hb dX12_endDeal_127 ?_
                    refine lv_topi (fun x_222 ex_222 => ?_)
                    have hin_223 : vp_in x_199 (zn K (zr K a0 0)) := vp_in_iff.mpr (by rw [(hf_1.2.2 (by decide))]; exact hr_200.in)
                    refine mst_40 C hM hs hP hS hf_1.1 hT hf_1.2.1 hin_223 (tp_39 hr_200) dX12_endDeal_128 (fun A_224 H locs hE_224 hT hP hS => ?_)
                    have ep_225 : x_199.toNatClampNeg = (x1.toInt + y_153.toInt + 39).toNat := z_posE hi_hr_200
                    rw [ep_225] at hE_224
                    clear ep_225
                    have FA := frA FA (frAu hE_224) (by decide)
                    have FC := fC.tr FC (fC.st (b := x1.toInt) (lo := 39) (hi := 42) hE_224 hb0.1 (by decide) hid_hr_200 hl_hr_200) (by decide)
                    obtain ⟨x_226, ex_226⟩ : ∃ y : Int32, y = y_153 + 2 := ⟨_, rfl⟩
                    refine lv_iinc (v := x_226) (lv' := [(6, .int x_226), (0, .ref a0), (1, .int x1), (2, .int x2), (3, .int y_14), (4, .int x_23), (5, .int x_42)]) hx hb dX12_endDeal_129 hl (k := 6) rfl (by rw [ex_226]; rfl) (by decide) rfl (fun ls hl => ?_)
                    refine lv_goto (tgt := 78) hx hb dX12_endDeal_132 (by decide) ?_
                    obtain ⟨f_226, l_226, u_226⟩ := z_add ex_226 rfl ti_2
                    try replace f_226 : x_226.toInt = y_153.toInt + 2 := by omega
                    clear l_226 u_226
                    have g_227 := z_rng x_42
                    obtain ⟨f_198, l_198, u_198⟩ := z_add ex_198 rfl ti_39
                    try replace f_198 : x_198.toInt = x1.toInt + 39 := by omega
                    clear l_198 u_198
                    obtain ⟨f_199, l_199, u_199⟩ := z_add ex_199 rfl rfl
                    try replace f_199 : x_199.toInt = x_198.toInt + y_153.toInt := by omega
                    clear l_199 u_199
                    have es_228 : A_224 40 (x1.toInt + 5).toNat = A_155 40 (x1.toInt + 5).toNat := by rw [hE_224, va_up_self, pk_un (zNe (i := (x1.toInt + 5)) (j := (x1.toInt + y_153.toInt + 39)) (by omega) (by omega) (by omega))]
                    exact ih_154 A_224 _ _ x_226 _ (by omega) (by omega) (by rw [es_228]; exact iv_155_1) FA FC hT hP hS (lv_sub hl [0, 6, 5, 4, 1, 2, 3] rfl)
                  refine bi_ne (tgt := 126) hx hb rfl ti_1 dX12_endDeal_115 (by decide) (fun c_216 => ?_) (fun c_216 => ?_)
                  · skip
                    refine lv_iconst (v := 0) hx hb dX12_endDeal_126 (by decide) ?_
                    exact J_127_220 0 _ (lv_sub hl [4, 5, 6, 3, 2, 1, 0] rfl)
                  · skip
                    refine lv_iload hx hb dX12_endDeal_118 (lv_at hl 2 rfl) ?_
                    refine lv_iload hx hb dX12_endDeal_120 (lv_at hl 1 rfl) ?_
                    have hz_229 : ¬ x_42 = 0 := fun h9 => by have h8 := congrArg Int32.toInt h9; rw [ti_0] at h8; omega
                    refine lv_idiv hx hb dX12_endDeal_122 hz_229 ?_
                    refine lv_topi (fun x_230 ex_230 => ?_)
                    refine lv_goto (tgt := 127) hx hb dX12_endDeal_123 (by decide) ?_
                    exact J_127_220 x_230 _ (lv_sub hl [4, 5, 6, 3, 2, 1, 0] rfl)
          have g_231 := z_rng x_42
          have es_232 : A_151 40 (x1.toInt + 5).toNat = A_16 40 (x1.toInt + 5).toNat := by rw [hA_151 40 (by decide), hA_23 40 (by decide)]
          exact L_78_154 _ A_151 _ _ y_14 _ (Nat.lt_succ_self _) (by omega) (by rw [es_232]; exact iv_16_2) FA FC hT hP hS (lv_sub hl [0, 1, 2, 3, 4, 5, 6] rfl)
  have g_233 := z_rng x1
  obtain ⟨f_8, l_8, u_8⟩ := z_add ex_8 rfl ti_9
  try replace f_8 : x_8.toInt = x1.toInt + 9 := by omega
  clear l_8 u_8
  have es_234 : A_12 40 (x1.toInt + 5).toNat = (2 : Int32) := by rw [hE_12, va_up_self, pk_un (zNe (i := (x1.toInt + 5)) (j := (x1.toInt + 9)) (by omega) (by omega) (by omega)), hE_6, va_up_self, pk_us]
  exact L_21_15 _ f A_12 _ _ 0 _ (Nat.lt_succ_self _) (by (try simp only [ti_0]); omega) (by rw [ti_0]; decide) (by rw [es_234]; exact ti_2) (Int.le_refl _) (by rw [ti_0]; omega) (Int.le_refl _) (by rw [ti_0]; omega) (by omega) (zHid.mk (fun h9 => by omega)) (by omega) FA FC FF hT hP hS (lv_sub hl [0, 1, 2, 3] rfl)
