set_option maxHeartbeats 4000000 in
set_option maxRecDepth 100000 in
theorem c_X12_endDeal (l : Launch) (D : va_G) (K : zK) (hM : mK K) (f : Nat → Int32) (A : Nat → Nat → Int32) (hT : mT f A) (a0 : Nat) (ha0 : a0 ∈ zl K) (hk0 : zk K a0 = 11) (x1 : Int32) (x2 : Int32) (hp0 : zRow x1.toInt) (hp1 : (f 11).toInt ≤ 1970000000) (hp2 : (f 9).toInt ≤ 1970000000) : Met l yX12_endDeal (zc yX12_endDeal cX12_endDeal 7 none) (rmd 2) (va_Pc [.ref a0, .int x1, .int x2] (zB D K (mV K f A))) (mQv D K (fun f' A' => mT f' A' ∧ (∀ k, k ∉ ([40, 48, 50] : List Nat) → A' k = A k) ∧ (∀ k, k ∉ ([9, 11] : List Nat) → f' k = f k) ∧ fC (A 40) (A' 40) x1.toInt ([(5, 5), (9, 9), (39, 42)] : List (Int × Int)) ∧ (f 9).toInt ≤ (f' 9).toInt ∧ (f' 9).toInt ≤ (f 9).toInt + 2 ∧ (f 11).toInt ≤ (f' 11).toInt ∧ (f' 11).toInt ≤ (f 11).toInt + 6 ∧ ((f 12).toInt ≠ 0 → (f' 11).toInt = (f 11).toInt) ∧ (rowP (A 40) x1.toInt → rowN (A' 40) x1.toInt))) 0 0 (zA K) := by
  refine zin (by decide) (Nat.le_of_ble_eq_true rfl) ?_
  intro p e s m args below meth c ls Q hQ C hr hlk hP hs hl
  have C : CallFix p m c cX12_endDeal 7 s args zw RX12 := C
  obtain ⟨hx, hb, hml, hown, hts⟩ := id C
  have hO := hM.1
  have hS : va_S (zA K) s.heap s.heap [] := va_S.rf
  have FA : ∀ k, k ∉ ([40, 48, 50] : List Nat) → A k = A k := fun _ _ => rfl
  have FF : ∀ k, k ∉ ([9, 11] : List Nat) → f k = f k := fun _ _ => rfl
  have FC : fC (A 40) (A 40) x1.toInt ([(5, 5), (9, 9), (39, 42)] : List (Int × Int)) := fun _ _ _ => rfl
  have hl : lv_has ls 7 [(0, .ref a0), (1, .int x1), (2, .int x2)] := hl
  have hb0 := hp0.lin
  have tR0 := hT.row hp0
  refine lv_aload_n hx hb dX12_endDeal_0 rfl (lv_at hl 0 rfl) ?_
  refine mg_0 C hs hP ha0 hk0 wf_X12_8 dX12_endDeal_1 ?_
  have hf_1 := hO.r (j := 0) ha0 hk0 (rfl : zX 11 0 = some (40, 47730))
  refine lv_iload_n hx hb dX12_endDeal_4 rfl (lv_at hl 1 rfl) ?_
  refine lv_iconst (v := 5) hx hb dX12_endDeal_5 (by decide) ?_
  refine lv_iadd hx hb dX12_endDeal_6 ?_
  refine lv_topi (fun x_2 ex_2 => ?_)
  refine lv_iconst (v := 2) hx hb dX12_endDeal_7 (by decide) ?_
  have hi_hr_3 : zEq x_2.toInt (x1.toInt + 5) := by
    have g_4 := z_rng x1
    obtain ⟨f_2, l_2, u_2⟩ := z_add ex_2 rfl ti_5
    try replace f_2 : x_2.toInt = x1.toInt + 5 := by omega
    clear l_2 u_2
    show x_2.toInt = (x1.toInt + 5)
    omega
  have hl_hr_3 : (5 : Int) ≤ 5 ∧ 5 ≤ (5 : Int) := by decide
  have hid_hr_3 : (x1.toInt + 5) = x1.toInt + (5) := by simp only [Int.add_assoc, Int.add_sub_assoc]
  have hr_3 := z_cell (lo := 2) (hi := 8) hp0 hi_hr_3 hid_hr_3 hl_hr_3 (by decide)
  replace hid_hr_3 : zEq (x1.toInt + 5) (x1.toInt + (5)) := hid_hr_3
  have hin_5 : vp_in x_2 (zn K (zr K a0 0)) := vp_in_iff.mpr (by rw [(hf_1.2.2 (by decide))]; exact hr_3.in)
  refine mst_40 C hM hs hP hS hf_1.1 hT hf_1.2.1 hin_5 (tp_2 hr_3) dX12_endDeal_8 (fun A_6 H locs hE_6 hT hP hS => ?_)
  have ep_7 : x_2.toNatClampNeg = (x1.toInt + 5).toNat := z_posE hi_hr_3
  rw [ep_7] at hE_6
  have FA := frA FA (frAu hE_6) (by decide)
  have FC := fC.tr FC (fC.st (b := x1.toInt) (lo := 5) (hi := 5) hE_6 hb0.1 (by decide) hid_hr_3 hl_hr_3) (by decide)
  refine lv_aload_n hx hb dX12_endDeal_9 rfl (lv_at hl 0 rfl) ?_
  refine mg_0 C hs hP ha0 hk0 wf_X12_8 dX12_endDeal_10 ?_
  refine lv_iload_n hx hb dX12_endDeal_13 rfl (lv_at hl 1 rfl) ?_
  refine lv_bipush (v := 9) hx hb dX12_endDeal_14 (by decide) ?_
  refine lv_iadd hx hb dX12_endDeal_16 ?_
  refine lv_topi (fun x_8 ex_8 => ?_)
  refine lv_iconst (v := (-1)) hx hb dX12_endDeal_17 (by decide) ?_
  have hi_hr_9 : zEq x_8.toInt (x1.toInt + 9) := by
    have g_10 := z_rng x1
    obtain ⟨f_8, l_8, u_8⟩ := z_add ex_8 rfl ti_9
    try replace f_8 : x_8.toInt = x1.toInt + 9 := by omega
    clear l_8 u_8
    show x_8.toInt = (x1.toInt + 9)
    omega
  have hl_hr_9 : (9 : Int) ≤ 9 ∧ 9 ≤ (9 : Int) := by decide
  have hid_hr_9 : (x1.toInt + 9) = x1.toInt + (9) := by simp only [Int.add_assoc, Int.add_sub_assoc]
  have hr_9 := z_cell (lo := 9) (hi := 9) hp0 hi_hr_9 hid_hr_9 hl_hr_9 (by decide)
  replace hid_hr_9 : zEq (x1.toInt + 9) (x1.toInt + (9)) := hid_hr_9
  have hin_11 : vp_in x_8 (zn K (zr K a0 0)) := vp_in_iff.mpr (by rw [(hf_1.2.2 (by decide))]; exact hr_9.in)
  refine mst_40 C hM hs hP hS hf_1.1 hT hf_1.2.1 hin_11 (tp_9 hr_9 (show -1 ≤ ((-1) : Int32).toInt ∧ ((-1) : Int32).toInt ≤ 3 from by rw [ti_m1]; omega)) dX12_endDeal_18 (fun A_12 H locs hE_12 hT hP hS => ?_)
  have ep_13 : x_8.toNatClampNeg = (x1.toInt + 9).toNat := z_posE hi_hr_9
  rw [ep_13] at hE_12
  have FA := frA FA (frAu hE_12) (by decide)
  have FC := fC.tr FC (fC.st (b := x1.toInt) (lo := 9) (hi := 9) hE_12 hb0.1 (by decide) hid_hr_9 hl_hr_9) (by decide)
  refine lv_iconst (v := 0) hx hb dX12_endDeal_19 (by decide) ?_
  refine lv_istore_n (lv' := [(3, .int 0), (0, .ref a0), (1, .int x1), (2, .int x2)]) hx hb dX12_endDeal_20 rfl hl (by decide) rfl (fun ls hl => ?_)
  have L_21_15 : ∀ (n_15 : Nat) (f_16 : Nat → Int32) (A_16 : Nat → Nat → Int32) (H : Heap) (locs : List Loc) (y_14 : Int32) (ls : Array Slot), (2147483648 - y_14.toInt).toNat < n_15 → 0 ≤ y_14.toInt → y_14.toInt ≤ 2 → (A_16 40 (x1.toInt + 5).toNat).toInt = 2 → (f 11).toInt ≤ (f_16 11).toInt → (f_16 11).toInt ≤ (f 11).toInt + 3 * y_14.toInt → ((f 12).toInt ≠ 0 → (f_16 11).toInt = (f 11).toInt) → (f 9).toInt ≤ (f_16 9).toInt → (f_16 9).toInt ≤ (f 9).toInt + y_14.toInt → ((f 11).toInt ≤ (f_16 11).toInt ∧ (f_16 11).toInt ≤ (f 11).toInt + 6 ∧ ((f 12).toInt ≠ 0 → (f_16 11).toInt = (f 11).toInt)) → ((f 9).toInt ≤ (f_16 9).toInt ∧ (f_16 9).toInt ≤ (f 9).toInt + 2) → (∀ k, k ∉ ([40, 48, 50] : List Nat) → A_16 k = A k) → fC (A 40) (A_16 40) x1.toInt ([(5, 5), (9, 9), (39, 42)] : List (Int × Int)) → (∀ k, k ∉ ([9, 11] : List Nat) → f_16 k = f k) → mT f_16 A_16 → va_P D vwCl (zW K (mV K f_16 A_16)) H → va_S (zA K) s.heap H locs → lv_has ls 7 [(3, .int y_14), (0, .ref a0), (1, .int x1), (2, .int x2)] → W p l e (rmd 2) s m args below meth c H locs 0 0 Q (F0 m 21 ls []) := by
    intro n_15
    induction n_15 with
    | zero => intro f_16 A_16 H locs y_14 ls hm_15; exact absurd hm_15 (Nat.not_lt_zero _)
    | succ n_15 ih_15 =>
      intro f_16 A_16 H locs y_14 ls hm_15 iv_16_0 iv_16_1 iv_16_2 iv_16_3 iv_16_4 iv_16_5 iv_16_6 iv_16_7 iv_16_8 iv_16_9 FA_16 FC_16 FF_16 hT hP hS hl
      have FA := FA_16
      have FC := FC_16
      have FF := FF_16
      refine lv_iload_n hx hb dX12_endDeal_21 rfl (lv_at hl 0 rfl) ?_
      refine lv_iconst (v := 2) hx hb dX12_endDeal_22 (by decide) ?_
      refine bi_ge (tgt := 141) hx hb rfl ti_2 dX12_endDeal_23 (by decide) (fun c_18 => ?_) (fun c_18 => ?_)
      · skip
        exact maV hQ hx hb hr hlk hP hS ⟨hT, FA, FF, FC, ⟨by omega, by omega, by omega, by omega, fun h9 => by omega, fun h9 => rowN.d2 (h9.fw tR0 hb0.1 FC (wz_of FC hb0.1 (by decide)) (by decide) (by decide) (by decide) (by decide) (by decide)) (by rw [iv_16_2]; decide)⟩⟩ dX12_endDeal_141
      · skip
        refine lv_aload_n hx hb dX12_endDeal_26 rfl (lv_at hl 1 rfl) ?_
        refine lv_iload_n hx hb dX12_endDeal_27 rfl (lv_at hl 2 rfl) ?_
        refine lv_iload_n hx hb dX12_endDeal_28 rfl (lv_at hl 0 rfl) ?_
        have g_19 := z_rng x1
        have g_20 := z_rng y_14
        have hq_21 : 0 ≤ y_14.toInt ∧ y_14.toInt ≤ 1 := by (first | assumption | omega | (intros; omega))
        have hq_22 : (f_16 11).toInt ≤ 1980000000 := by (first | assumption | omega | (intros; omega))
        refine mcI (zrV (As := [.int x1, .int y_14]) (b := a0) (rest := []) C hs hP hS (c_X12_settle l D K hM f_16 A_16 hT a0 ha0 hk0 x1 y_14 hp0 hq_21 hq_22) m_X12_settle wm_X12_229 (zrecv hs hP ha0 (zF_11 hk0) rfl) ⟨by decide, by decide⟩ hl.1 (Nat.le_of_ble_eq_true rfl) dX12_endDeal_29) hS (fun x_23 f_23 A_23 H locs p_23 hP hS => ?_)
        obtain ⟨hT, hA_23, hF_23, pp_23⟩ := p_23
        have pp_23 : (f_16 11).toInt ≤ (f_23 11).toInt ∧ (f_23 11).toInt ≤ (f_16 11).toInt + 3 ∧ ((f_16 12).toInt ≠ 0 → (f_23 11).toInt = (f_16 11).toInt) := pp_23
        have ev_24 : f_16 12 = f 12 := by rw [FF_16 12 (by decide)]
        rw [ev_24] at pp_23
        have FA := frA FA hA_23 (by decide)
        have FF := frF FF hF_23 (by decide)
        have FC := fC.eq FC (hA_23 40 (by decide))
        refine lv_istore (lv' := [(4, .int x_23), (3, .int y_14), (0, .ref a0), (1, .int x1), (2, .int x2)]) hx hb dX12_endDeal_32 hl (by decide) rfl (fun ls hl => ?_)
        refine lv_aload_n hx hb dX12_endDeal_34 rfl (lv_at hl 2 rfl) ?_
        refine mg_0 C hs hP ha0 hk0 wf_X12_8 dX12_endDeal_35 ?_
        refine lv_iload_n hx hb dX12_endDeal_38 rfl (lv_at hl 3 rfl) ?_
        refine lv_bipush (v := 35) hx hb dX12_endDeal_39 (by decide) ?_
        refine lv_iadd hx hb dX12_endDeal_41 ?_
        refine lv_topi (fun x_25 ex_25 => ?_)
        refine lv_iload_n hx hb dX12_endDeal_42 rfl (lv_at hl 1 rfl) ?_
        refine lv_iadd hx hb dX12_endDeal_43 ?_
        refine lv_topi (fun x_26 ex_26 => ?_)
        have hi_hr_27 : zEq x_26.toInt (x1.toInt + y_14.toInt + 35) := by
          obtain ⟨f_25, l_25, u_25⟩ := z_add ex_25 rfl ti_35
          try replace f_25 : x_25.toInt = x1.toInt + 35 := by omega
          clear l_25 u_25
          obtain ⟨f_26, l_26, u_26⟩ := z_add ex_26 rfl rfl
          try replace f_26 : x_26.toInt = x_25.toInt + y_14.toInt := by omega
          clear l_26 u_26
          show x_26.toInt = (x1.toInt + y_14.toInt + 35)
          omega
        have hl_hr_27 : 35 ≤ y_14.toInt + 35 ∧ y_14.toInt + 35 ≤ 38 := by
          omega
        have hid_hr_27 : (x1.toInt + y_14.toInt + 35) = x1.toInt + (y_14.toInt + 35) := by simp only [Int.add_assoc, Int.add_sub_assoc]
        have hr_27 := z_cell (lo := 35) (hi := 38) hp0 hi_hr_27 hid_hr_27 hl_hr_27 (by decide)
        replace hid_hr_27 : zEq (x1.toInt + y_14.toInt + 35) (x1.toInt + (y_14.toInt + 35)) := hid_hr_27
        have hin_28 : vp_in x_26 (zn K (zr K a0 0)) := vp_in_iff.mpr (by rw [(hf_1.2.2 (by decide))]; exact hr_27.in)
        refine mld_40 C hs hP hf_1.1 hf_1.2.1 hin_28 dX12_endDeal_44 ?_
        have ep_29 : x_26.toNatClampNeg = (x1.toInt + y_14.toInt + 35).toNat := z_posE hi_hr_27
        rw [ep_29]
        obtain ⟨f_25, l_25, u_25⟩ := z_add ex_25 rfl ti_35
        try replace f_25 : x_25.toInt = x1.toInt + 35 := by omega
        clear l_25 u_25
        obtain ⟨f_26, l_26, u_26⟩ := z_add ex_26 rfl rfl
        try replace f_26 : x_26.toInt = x_25.toInt + y_14.toInt := by omega
        clear l_26 u_26
        have hc_30 := FC_16 (x1.toInt + y_14.toInt + 35) (by omega) (by simp only [List.mem_cons, List.not_mem_nil, or_false, forall_eq_or_imp, forall_eq]; omega)
        have ev_31 : A_23 40 (x1.toInt + y_14.toInt + 35).toNat = A 40 (x1.toInt + y_14.toInt + 35).toNat := by rw [hA_23 40 (by decide), hc_30]
        have tv_32 := rv_35 hT hr_27
        rw [ep_29] at tv_32
        rw [ev_31] at tv_32
        rw [ev_31]
        refine lv_aload_n hx hb dX12_endDeal_45 rfl (lv_at hl 2 rfl) ?_
        refine mg_0 C hs hP ha0 hk0 wf_X12_8 dX12_endDeal_46 ?_
        refine lv_iload_n hx hb dX12_endDeal_49 rfl (lv_at hl 3 rfl) ?_
        refine lv_bipush (v := 35) hx hb dX12_endDeal_50 (by decide) ?_
        refine lv_iadd hx hb dX12_endDeal_52 ?_
        refine lv_topi (fun x_33 ex_33 => ?_)
        refine lv_iload_n hx hb dX12_endDeal_53 rfl (lv_at hl 1 rfl) ?_
        refine lv_iadd hx hb dX12_endDeal_54 ?_
        refine lv_topi (fun x_34 ex_34 => ?_)
        refine lv_iconst (v := 2) hx hb dX12_endDeal_55 (by decide) ?_
        refine lv_iadd hx hb dX12_endDeal_56 ?_
        refine lv_topi (fun x_35 ex_35 => ?_)
        have hi_hr_36 : zEq x_35.toInt (x1.toInt + y_14.toInt + 37) := by
          obtain ⟨f_33, l_33, u_33⟩ := z_add ex_33 rfl ti_35
          try replace f_33 : x_33.toInt = x1.toInt + 35 := by omega
          clear l_33 u_33
          obtain ⟨f_34, l_34, u_34⟩ := z_add ex_34 rfl rfl
          try replace f_34 : x_34.toInt = x_33.toInt + y_14.toInt := by omega
          clear l_34 u_34
          obtain ⟨f_35, l_35, u_35⟩ := z_add ex_35 rfl ti_2
          try replace f_35 : x_35.toInt = x_34.toInt + 2 := by omega
          clear l_35 u_35
          show x_35.toInt = (x1.toInt + y_14.toInt + 37)
          omega
        have hl_hr_36 : 35 ≤ y_14.toInt + 37 ∧ y_14.toInt + 37 ≤ 38 := by
          omega
        have hid_hr_36 : (x1.toInt + y_14.toInt + 37) = x1.toInt + (y_14.toInt + 37) := by simp only [Int.add_assoc, Int.add_sub_assoc]
        have hr_36 := z_cell (lo := 35) (hi := 38) hp0 hi_hr_36 hid_hr_36 hl_hr_36 (by decide)
        replace hid_hr_36 : zEq (x1.toInt + y_14.toInt + 37) (x1.toInt + (y_14.toInt + 37)) := hid_hr_36
        have hin_37 : vp_in x_35 (zn K (zr K a0 0)) := vp_in_iff.mpr (by rw [(hf_1.2.2 (by decide))]; exact hr_36.in)
        refine mld_40 C hs hP hf_1.1 hf_1.2.1 hin_37 dX12_endDeal_57 ?_
        have ep_38 : x_35.toNatClampNeg = (x1.toInt + y_14.toInt + 37).toNat := z_posE hi_hr_36
        rw [ep_38]
        obtain ⟨f_33, l_33, u_33⟩ := z_add ex_33 rfl ti_35
        try replace f_33 : x_33.toInt = x1.toInt + 35 := by omega
        clear l_33 u_33
        obtain ⟨f_34, l_34, u_34⟩ := z_add ex_34 rfl rfl
        try replace f_34 : x_34.toInt = x_33.toInt + y_14.toInt := by omega
        clear l_34 u_34
        obtain ⟨f_35, l_35, u_35⟩ := z_add ex_35 rfl ti_2
        try replace f_35 : x_35.toInt = x_34.toInt + 2 := by omega
        clear l_35 u_35
        have hc_39 := FC_16 (x1.toInt + y_14.toInt + 37) (by omega) (by simp only [List.mem_cons, List.not_mem_nil, or_false, forall_eq_or_imp, forall_eq]; omega)
        have ev_40 : A_23 40 (x1.toInt + y_14.toInt + 37).toNat = A 40 (x1.toInt + y_14.toInt + 37).toNat := by rw [hA_23 40 (by decide), hc_39]
        have tv_41 := rv_35 hT hr_36
        rw [ep_38] at tv_41
        rw [ev_40] at tv_41
        rw [ev_40]
        refine lv_iadd hx hb dX12_endDeal_58 ?_
        refine lv_topi (fun x_42 ex_42 => ?_)
        refine lv_istore (lv' := [(5, .int x_42), (4, .int x_23), (3, .int y_14), (0, .ref a0), (1, .int x1), (2, .int x2)]) hx hb dX12_endDeal_59 hl (by decide) rfl (fun ls hl => ?_)
        refine lv_iload hx hb dX12_endDeal_61 (lv_at hl 0 rfl) ?_
        refine bz_ne (tgt := 75) hx hb rfl dX12_endDeal_63 (by decide) (fun c_43 => ?_) (fun c_43 => ?_)
        · skip
          refine lv_iload_n hx hb dX12_endDeal_75 rfl (lv_at hl 2 rfl) ?_
          refine lv_istore (lv' := [(6, .int y_14), (5, .int x_42), (4, .int x_23), (3, .int y_14), (0, .ref a0), (1, .int x1), (2, .int x2)]) hx hb dX12_endDeal_76 hl (by decide) rfl (fun ls hl => ?_)
          have L_78_45 : ∀ (n_45 : Nat) (A_46 : Nat → Nat → Int32) (H : Heap) (locs : List Loc) (y_44 : Int32) (ls : Array Slot), (2147483648 - y_44.toInt).toNat < n_45 → 0 ≤ y_44.toInt → (A_46 40 (x1.toInt + 5).toNat).toInt = 2 → (∀ k, k ∉ ([40, 48, 50] : List Nat) → A_46 k = A k) → fC (A 40) (A_46 40) x1.toInt ([(5, 5), (9, 9), (39, 42)] : List (Int × Int)) → mT f_23 A_46 → va_P D vwCl (zW K (mV K f_23 A_46)) H → va_S (zA K) s.heap H locs → lv_has ls 7 [(6, .int y_44), (5, .int x_42), (4, .int x_23), (3, .int y_14), (0, .ref a0), (1, .int x1), (2, .int x2)] → W p l e (rmd 2) s m args below meth c H locs 0 0 Q (F0 m 78 ls []) := by
            intro n_45
            induction n_45 with
            | zero => intro A_46 H locs y_44 ls hm_45; exact absurd hm_45 (Nat.not_lt_zero _)
            | succ n_45 ih_45 =>
              intro A_46 H locs y_44 ls hm_45 iv_46_0 iv_46_1 FA_46 FC_46 hT hP hS hl
              have FA := FA_46
              have FC := FC_46
              refine lv_iload hx hb dX12_endDeal_78 (lv_at hl 0 rfl) ?_
              refine lv_iconst (v := 4) hx hb dX12_endDeal_80 (by decide) ?_
              have J_135_93 : ∀ (ls : Array Slot), lv_has ls 7 [(0, .ref a0), (1, .int x1), (2, .int x2), (3, .int y_14), (4, .int x_23), (5, .int x_42), (6, .int y_44)] → W p l e (rmd 2) s m args below meth c H locs 0 0 Q (F0 m 135 ls []) := by
                intro ls hl
                obtain ⟨x_95, ex_95⟩ : ∃ y : Int32, y = y_14 + 1 := ⟨_, rfl⟩
                refine lv_iinc (v := x_95) (lv' := [(3, .int x_95), (0, .ref a0), (1, .int x1), (2, .int x2), (4, .int x_23), (5, .int x_42), (6, .int y_44)]) hx hb dX12_endDeal_135 hl (k := 3) rfl (by rw [ex_95]; rfl) (by decide) rfl (fun ls hl => ?_)
                refine lv_goto (tgt := 21) hx hb dX12_endDeal_138 (by decide) ?_
                obtain ⟨f_95, l_95, u_95⟩ := z_add ex_95 rfl ti_1
                try replace f_95 : x_95.toInt = y_14.toInt + 1 := by omega
                clear l_95 u_95
                have ev_96 : f_23 9 = f_16 9 := by rw [hF_23 9 (by decide)]
                have ev_97 : f_23 9 = f_16 9 := by rw [hF_23 9 (by decide)]
                exact ih_15 f_23 A_46 _ _ x_95 _ (by omega) (by omega) (by omega) iv_46_1 (by omega) (by omega) (fun h9 => by omega) (by rw [ev_96] <;> omega) (by rw [ev_96] <;> omega) (by omega) (by rw [ev_97] <;> omega) FA FC FF hT hP hS (lv_sub hl [0, 1, 2, 3] rfl)
              refine bi_ge (tgt := 135) hx hb rfl ti_4 dX12_endDeal_81 (by decide) (fun c_48 => ?_) (fun c_48 => ?_)
              · skip
                exact J_135_93 _ (lv_sub hl [4, 5, 6, 3, 2, 1, 0] rfl)
              · skip
                refine lv_iload hx hb dX12_endDeal_84 (lv_at hl 1 rfl) ?_
                refine bz_le (tgt := 135) hx hb rfl dX12_endDeal_86 (by decide) (fun c_98 => ?_) (fun c_98 => ?_)
                · skip
                  exact J_135_93 _ (lv_sub hl [4, 5, 6, 3, 2, 1, 0] rfl)
                · skip
                  refine lv_aload_n hx hb dX12_endDeal_89 rfl (lv_at hl 4 rfl) ?_
                  refine mg_0 C hs hP ha0 hk0 wf_X12_8 dX12_endDeal_90 ?_
                  refine lv_iload_n hx hb dX12_endDeal_93 rfl (lv_at hl 5 rfl) ?_
                  refine lv_bipush (v := 39) hx hb dX12_endDeal_94 (by decide) ?_
                  refine lv_iadd hx hb dX12_endDeal_96 ?_
                  refine lv_topi (fun x_99 ex_99 => ?_)
                  refine lv_iload hx hb dX12_endDeal_97 (lv_at hl 0 rfl) ?_
                  refine lv_iadd hx hb dX12_endDeal_99 ?_
                  refine lv_topi (fun x_100 ex_100 => ?_)
                  refine lv_dup2_11 hx hb dX12_endDeal_100 rfl rfl ?_
                  have hi_hr_101 : zEq x_100.toInt (x1.toInt + y_44.toInt + 39) := by
                    obtain ⟨f_99, l_99, u_99⟩ := z_add ex_99 rfl ti_39
                    try replace f_99 : x_99.toInt = x1.toInt + 39 := by omega
                    clear l_99 u_99
                    have g_102 := z_rng y_44
                    obtain ⟨f_100, l_100, u_100⟩ := z_add ex_100 rfl rfl
                    try replace f_100 : x_100.toInt = x_99.toInt + y_44.toInt := by omega
                    clear l_100 u_100
                    show x_100.toInt = (x1.toInt + y_44.toInt + 39)
                    omega
                  have hl_hr_101 : 39 ≤ y_44.toInt + 39 ∧ y_44.toInt + 39 ≤ 42 := by
                    have g_103 := z_rng y_44
                    have g_104 := z_rng (A 40 (x1.toInt + y_14.toInt + 35).toNat)
                    have g_105 := z_rng (A 40 (x1.toInt + y_14.toInt + 37).toNat)
                    obtain ⟨f_42, l_42, u_42⟩ := z_add ex_42 rfl rfl
                    try replace f_42 : x_42.toInt = (A 40 (x1.toInt + y_14.toInt + 35).toNat).toInt + (A 40 (x1.toInt + y_14.toInt + 37).toNat).toInt := by omega
                    clear l_42 u_42
                    omega
                  have hid_hr_101 : (x1.toInt + y_44.toInt + 39) = x1.toInt + (y_44.toInt + 39) := by simp only [Int.add_assoc, Int.add_sub_assoc]
                  have hr_101 := z_cell (lo := 39) (hi := 42) hp0 hi_hr_101 hid_hr_101 hl_hr_101 (by decide)
                  replace hid_hr_101 : zEq (x1.toInt + y_44.toInt + 39) (x1.toInt + (y_44.toInt + 39)) := hid_hr_101
                  have hin_106 : vp_in x_100 (zn K (zr K a0 0)) := vp_in_iff.mpr (by rw [(hf_1.2.2 (by decide))]; exact hr_101.in)
                  refine mld_40 C hs hP hf_1.1 hf_1.2.1 hin_106 dX12_endDeal_101 ?_
                  have ep_107 : x_100.toNatClampNeg = (x1.toInt + y_44.toInt + 39).toNat := z_posE hi_hr_101
                  rw [ep_107]
                  refine lv_aload_n hx hb dX12_endDeal_102 rfl (lv_at hl 4 rfl) ?_
                  refine mg_0 C hs hP ha0 hk0 wf_X12_8 dX12_endDeal_103 ?_
                  refine lv_iload_n hx hb dX12_endDeal_106 rfl (lv_at hl 5 rfl) ?_
                  refine lv_bipush (v := 35) hx hb dX12_endDeal_107 (by decide) ?_
                  refine lv_iadd hx hb dX12_endDeal_109 ?_
                  refine lv_topi (fun x_108 ex_108 => ?_)
                  refine lv_iload hx hb dX12_endDeal_110 (lv_at hl 0 rfl) ?_
                  refine lv_iadd hx hb dX12_endDeal_112 ?_
                  refine lv_topi (fun x_109 ex_109 => ?_)
                  have hi_hr_110 : zEq x_109.toInt (x1.toInt + y_44.toInt + 35) := by
                    obtain ⟨f_108, l_108, u_108⟩ := z_add ex_108 rfl ti_35
                    try replace f_108 : x_108.toInt = x1.toInt + 35 := by omega
                    clear l_108 u_108
                    have g_111 := z_rng y_44
                    obtain ⟨f_109, l_109, u_109⟩ := z_add ex_109 rfl rfl
                    try replace f_109 : x_109.toInt = x_108.toInt + y_44.toInt := by omega
                    clear l_109 u_109
                    show x_109.toInt = (x1.toInt + y_44.toInt + 35)
                    omega
                  have hl_hr_110 : 35 ≤ y_44.toInt + 35 ∧ y_44.toInt + 35 ≤ 38 := by
                    have g_112 := z_rng y_44
                    have g_113 := z_rng (A 40 (x1.toInt + y_14.toInt + 35).toNat)
                    have g_114 := z_rng (A 40 (x1.toInt + y_14.toInt + 37).toNat)
                    obtain ⟨f_42, l_42, u_42⟩ := z_add ex_42 rfl rfl
                    try replace f_42 : x_42.toInt = (A 40 (x1.toInt + y_14.toInt + 35).toNat).toInt + (A 40 (x1.toInt + y_14.toInt + 37).toNat).toInt := by omega
                    clear l_42 u_42
                    omega
                  have hid_hr_110 : (x1.toInt + y_44.toInt + 35) = x1.toInt + (y_44.toInt + 35) := by simp only [Int.add_assoc, Int.add_sub_assoc]
                  have hr_110 := z_cell (lo := 35) (hi := 38) hp0 hi_hr_110 hid_hr_110 hl_hr_110 (by decide)
                  replace hid_hr_110 : zEq (x1.toInt + y_44.toInt + 35) (x1.toInt + (y_44.toInt + 35)) := hid_hr_110
                  have hin_115 : vp_in x_109 (zn K (zr K a0 0)) := vp_in_iff.mpr (by rw [(hf_1.2.2 (by decide))]; exact hr_110.in)
                  refine mld_40 C hs hP hf_1.1 hf_1.2.1 hin_115 dX12_endDeal_113 ?_
                  have ep_116 : x_109.toNatClampNeg = (x1.toInt + y_44.toInt + 35).toNat := z_posE hi_hr_110
                  rw [ep_116]
                  obtain ⟨f_108, l_108, u_108⟩ := z_add ex_108 rfl ti_35
                  try replace f_108 : x_108.toInt = x1.toInt + 35 := by omega
                  clear l_108 u_108
                  have g_118 := z_rng y_44
                  obtain ⟨f_109, l_109, u_109⟩ := z_add ex_109 rfl rfl
                  try replace f_109 : x_109.toInt = x_108.toInt + y_44.toInt := by omega
                  clear l_109 u_109
                  have hc_117 := FC_46 (x1.toInt + y_44.toInt + 35) (by omega) (by simp only [List.mem_cons, List.not_mem_nil, or_false, forall_eq_or_imp, forall_eq]; omega)
                  have ev_119 : A_46 40 (x1.toInt + y_44.toInt + 35).toNat = A 40 (x1.toInt + y_44.toInt + 35).toNat := by rw [hc_117]
                  have tv_120 := rv_35 hT hr_110
                  rw [ep_116] at tv_120
                  rw [ev_119] at tv_120
                  rw [ev_119]
                  refine lv_iconst (v := 1) hx hb dX12_endDeal_114 (by decide) ?_
                  have J_127_127 : ∀ (y_126 : Int32) (ls : Array Slot), lv_has ls 7 [(0, .ref a0), (1, .int x1), (2, .int x2), (3, .int y_14), (4, .int x_23), (5, .int x_42), (6, .int y_44)] → W p l e (rmd 2) s m args below meth c H locs 0 0 Q (F0 m 127 ls [.int y_126, .int (A_46 40 (x1.toInt + y_44.toInt + 39).toNat), .int x_100, .ref (zr K a0 0)]) := by
                    intro y_126 ls hl
                    refine lv_iadd hx hb dX12_endDeal_127 ?_
                    refine lv_topi (fun x_129 ex_129 => ?_)
                    have hin_130 : vp_in x_100 (zn K (zr K a0 0)) := vp_in_iff.mpr (by rw [(hf_1.2.2 (by decide))]; exact hr_101.in)
                    refine mst_40 C hM hs hP hS hf_1.1 hT hf_1.2.1 hin_130 (tp_39 hr_101) dX12_endDeal_128 (fun A_131 H locs hE_131 hT hP hS => ?_)
                    have ep_132 : x_100.toNatClampNeg = (x1.toInt + y_44.toInt + 39).toNat := z_posE hi_hr_101
                    rw [ep_132] at hE_131
                    have FA := frA FA (frAu hE_131) (by decide)
                    have FC := fC.tr FC (fC.st (b := x1.toInt) (lo := 39) (hi := 42) hE_131 hb0.1 (by decide) hid_hr_101 hl_hr_101) (by decide)
                    obtain ⟨x_133, ex_133⟩ : ∃ y : Int32, y = y_44 + 2 := ⟨_, rfl⟩
                    refine lv_iinc (v := x_133) (lv' := [(6, .int x_133), (0, .ref a0), (1, .int x1), (2, .int x2), (3, .int y_14), (4, .int x_23), (5, .int x_42)]) hx hb dX12_endDeal_129 hl (k := 6) rfl (by rw [ex_133]; rfl) (by decide) rfl (fun ls hl => ?_)
                    refine lv_goto (tgt := 78) hx hb dX12_endDeal_132 (by decide) ?_
                    obtain ⟨f_133, l_133, u_133⟩ := z_add ex_133 rfl ti_2
                    try replace f_133 : x_133.toInt = y_44.toInt + 2 := by omega
                    clear l_133 u_133
                    have g_134 := z_rng x_42
                    have g_135 := z_rng (A 40 (x1.toInt + y_14.toInt + 35).toNat)
                    have g_136 := z_rng (A 40 (x1.toInt + y_14.toInt + 37).toNat)
                    obtain ⟨f_42, l_42, u_42⟩ := z_add ex_42 rfl rfl
                    try replace f_42 : x_42.toInt = (A 40 (x1.toInt + y_14.toInt + 35).toNat).toInt + (A 40 (x1.toInt + y_14.toInt + 37).toNat).toInt := by omega
                    clear l_42 u_42
                    obtain ⟨f_99, l_99, u_99⟩ := z_add ex_99 rfl ti_39
                    try replace f_99 : x_99.toInt = x1.toInt + 39 := by omega
                    clear l_99 u_99
                    obtain ⟨f_100, l_100, u_100⟩ := z_add ex_100 rfl rfl
                    try replace f_100 : x_100.toInt = x_99.toInt + y_44.toInt := by omega
                    clear l_100 u_100
                    have es_137 : A_131 40 (x1.toInt + 5).toNat = A_46 40 (x1.toInt + 5).toNat := by rw [hE_131, va_up_self, pk_un (show (x1.toInt + 5).toNat ≠ (x1.toInt + y_44.toInt + 39).toNat by omega)]
                    exact ih_45 A_131 _ _ x_133 _ (by omega) (by omega) (by rw [es_137]; exact iv_46_1) FA FC hT hP hS (lv_sub hl [0, 6, 5, 4, 1, 2, 3] rfl)
                  refine bi_ne (tgt := 126) hx hb rfl ti_1 dX12_endDeal_115 (by decide) (fun c_121 => ?_) (fun c_121 => ?_)
                  · skip
                    refine lv_iconst (v := 0) hx hb dX12_endDeal_126 (by decide) ?_
                    exact J_127_127 0 _ (lv_sub hl [4, 5, 6, 3, 2, 1, 0] rfl)
                  · skip
                    refine lv_iload hx hb dX12_endDeal_118 (lv_at hl 2 rfl) ?_
                    refine lv_iload hx hb dX12_endDeal_120 (lv_at hl 1 rfl) ?_
                    have g_138 := z_rng (A 40 (x1.toInt + y_14.toInt + 35).toNat)
                    have g_139 := z_rng (A 40 (x1.toInt + y_14.toInt + 37).toNat)
                    obtain ⟨f_42, l_42, u_42⟩ := z_add ex_42 rfl rfl
                    try replace f_42 : x_42.toInt = (A 40 (x1.toInt + y_14.toInt + 35).toNat).toInt + (A 40 (x1.toInt + y_14.toInt + 37).toNat).toInt := by omega
                    clear l_42 u_42
                    have hz_140 : ¬ x_42 = 0 := fun h9 => by have h8 := congrArg Int32.toInt h9; rw [ti_0] at h8; omega
                    refine lv_idiv hx hb dX12_endDeal_122 hz_140 ?_
                    refine lv_topi (fun x_141 ex_141 => ?_)
                    refine lv_goto (tgt := 127) hx hb dX12_endDeal_123 (by decide) ?_
                    exact J_127_127 x_141 _ (lv_sub hl [4, 5, 6, 3, 2, 1, 0] rfl)
          have g_142 := z_rng x_42
          have g_143 := z_rng (A 40 (x1.toInt + y_14.toInt + 35).toNat)
          have g_144 := z_rng (A 40 (x1.toInt + y_14.toInt + 37).toNat)
          obtain ⟨f_42, l_42, u_42⟩ := z_add ex_42 rfl rfl
          try replace f_42 : x_42.toInt = (A 40 (x1.toInt + y_14.toInt + 35).toNat).toInt + (A 40 (x1.toInt + y_14.toInt + 37).toNat).toInt := by omega
          clear l_42 u_42
          have es_145 : A_23 40 (x1.toInt + 5).toNat = A_16 40 (x1.toInt + 5).toNat := by rw [hA_23 40 (by decide)]
          exact L_78_45 _ A_23 _ _ y_14 _ (Nat.lt_succ_self _) (by omega) (by rw [es_145]; exact iv_16_2) FA FC hT hP hS (lv_sub hl [0, 1, 2, 3, 4, 5, 6] rfl)
        · skip
          refine lv_aload_n hx hb dX12_endDeal_66 rfl (lv_at hl 3 rfl) ?_
          refine lv_bipush (v := 7) hx hb dX12_endDeal_67 (by decide) ?_
          refine lv_iload_n hx hb dX12_endDeal_69 rfl (lv_at hl 5 rfl) ?_
          refine lv_iload_n hx hb dX12_endDeal_70 rfl (lv_at hl 2 rfl) ?_
          refine lv_iconst (v := 0) hx hb dX12_endDeal_71 (by decide) ?_
          have g_146 := z_rng x2
          have g_147 := z_rng (A 40 (x1.toInt + y_14.toInt + 35).toNat)
          have g_148 := z_rng (A 40 (x1.toInt + y_14.toInt + 37).toNat)
          obtain ⟨f_42, l_42, u_42⟩ := z_add ex_42 rfl rfl
          try replace f_42 : x_42.toInt = (A 40 (x1.toInt + y_14.toInt + 35).toNat).toInt + (A 40 (x1.toInt + y_14.toInt + 37).toNat).toInt := by omega
          clear l_42 u_42
          have ev_150 : f_23 9 = f_16 9 := by rw [hF_23 9 (by decide)]
          have hq_149 : (f_23 9).toInt ≤ 2000000000 := by rw [ev_150] <;> ((try simp only [ti_0, ti_7]); first | assumption | omega | (intros; omega))
          refine mcV (zrV (As := [.int 7, .int x2, .int y_14, .int 0]) (b := a0) (rest := []) C hs hP hS (c_X12_find l D K hM f_23 A_23 hT a0 ha0 hk0 7 x2 y_14 0 hq_149) m_X12_find wm_X12_232 (zrecv hs hP ha0 (zF_11 hk0) rfl) ⟨by decide, by decide⟩ hl.1 (Nat.le_of_ble_eq_true rfl) dX12_endDeal_72) hS (fun f_151 A_151 H locs p_151 hP hS => ?_)
          obtain ⟨hT, hA_151, hF_151, pp_151⟩ := p_151
          have pp_151 : (f_23 9).toInt ≤ (f_151 9).toInt ∧ (f_151 9).toInt ≤ (f_23 9).toInt + 1 := pp_151
          have ev_152 : f_23 9 = f_16 9 := by rw [hF_23 9 (by decide)]
          rw [ev_152] at pp_151
          try simp only [ti_0, ti_7] at pp_151
          have FA := frA FA hA_151 (by decide)
          have FF := frF FF hF_151 (by decide)
          have FC := fC.eq FC (hA_151 40 (by decide))
          refine lv_iload_n hx hb dX12_endDeal_75 rfl (lv_at hl 2 rfl) ?_
          refine lv_istore (lv' := [(6, .int y_14), (5, .int x_42), (4, .int x_23), (3, .int y_14), (0, .ref a0), (1, .int x1), (2, .int x2)]) hx hb dX12_endDeal_76 hl (by decide) rfl (fun ls hl => ?_)
          have L_78_154 : ∀ (n_154 : Nat) (A_155 : Nat → Nat → Int32) (H : Heap) (locs : List Loc) (y_153 : Int32) (ls : Array Slot), (2147483648 - y_153.toInt).toNat < n_154 → 0 ≤ y_153.toInt → (A_155 40 (x1.toInt + 5).toNat).toInt = 2 → (∀ k, k ∉ ([40, 48, 50] : List Nat) → A_155 k = A k) → fC (A 40) (A_155 40) x1.toInt ([(5, 5), (9, 9), (39, 42)] : List (Int × Int)) → mT f_151 A_155 → va_P D vwCl (zW K (mV K f_151 A_155)) H → va_S (zA K) s.heap H locs → lv_has ls 7 [(6, .int y_153), (5, .int x_42), (4, .int x_23), (3, .int y_14), (0, .ref a0), (1, .int x1), (2, .int x2)] → W p l e (rmd 2) s m args below meth c H locs 0 0 Q (F0 m 78 ls []) := by
            intro n_154
            induction n_154 with
            | zero => intro A_155 H locs y_153 ls hm_154; exact absurd hm_154 (Nat.not_lt_zero _)
            | succ n_154 ih_154 =>
              intro A_155 H locs y_153 ls hm_154 iv_155_0 iv_155_1 FA_155 FC_155 hT hP hS hl
              have FA := FA_155
              have FC := FC_155
              refine lv_iload hx hb dX12_endDeal_78 (lv_at hl 0 rfl) ?_
              refine lv_iconst (v := 4) hx hb dX12_endDeal_80 (by decide) ?_
              have J_135_192 : ∀ (ls : Array Slot), lv_has ls 7 [(0, .ref a0), (1, .int x1), (2, .int x2), (3, .int y_14), (4, .int x_23), (5, .int x_42), (6, .int y_153)] → W p l e (rmd 2) s m args below meth c H locs 0 0 Q (F0 m 135 ls []) := by
                intro ls hl
                obtain ⟨x_194, ex_194⟩ : ∃ y : Int32, y = y_14 + 1 := ⟨_, rfl⟩
                refine lv_iinc (v := x_194) (lv' := [(3, .int x_194), (0, .ref a0), (1, .int x1), (2, .int x2), (4, .int x_23), (5, .int x_42), (6, .int y_153)]) hx hb dX12_endDeal_135 hl (k := 3) rfl (by rw [ex_194]; rfl) (by decide) rfl (fun ls hl => ?_)
                refine lv_goto (tgt := 21) hx hb dX12_endDeal_138 (by decide) ?_
                obtain ⟨f_194, l_194, u_194⟩ := z_add ex_194 rfl ti_1
                try replace f_194 : x_194.toInt = y_14.toInt + 1 := by omega
                clear l_194 u_194
                have ev_195 : f_151 11 = f_23 11 := by rw [hF_151 11 (by decide)]
                have ev_196 : f_151 11 = f_23 11 := by rw [hF_151 11 (by decide)]
                exact ih_15 f_151 A_155 _ _ x_194 _ (by omega) (by omega) (by omega) iv_155_1 (by rw [ev_195] <;> omega) (by rw [ev_195] <;> omega) (fun h9 => by rw [ev_195] <;> omega) (by omega) (by omega) (by rw [ev_196] <;> omega) (by omega) FA FC FF hT hP hS (lv_sub hl [0, 1, 2, 3] rfl)
              refine bi_ge (tgt := 135) hx hb rfl ti_4 dX12_endDeal_81 (by decide) (fun c_157 => ?_) (fun c_157 => ?_)
              · skip
                exact J_135_192 _ (lv_sub hl [4, 5, 6, 3, 2, 1, 0] rfl)
              · skip
                refine lv_iload hx hb dX12_endDeal_84 (lv_at hl 1 rfl) ?_
                refine bz_le (tgt := 135) hx hb rfl dX12_endDeal_86 (by decide) (fun c_197 => ?_) (fun c_197 => ?_)
                · skip
                  exact J_135_192 _ (lv_sub hl [4, 5, 6, 3, 2, 1, 0] rfl)
                · skip
                  refine lv_aload_n hx hb dX12_endDeal_89 rfl (lv_at hl 4 rfl) ?_
                  refine mg_0 C hs hP ha0 hk0 wf_X12_8 dX12_endDeal_90 ?_
                  refine lv_iload_n hx hb dX12_endDeal_93 rfl (lv_at hl 5 rfl) ?_
                  refine lv_bipush (v := 39) hx hb dX12_endDeal_94 (by decide) ?_
                  refine lv_iadd hx hb dX12_endDeal_96 ?_
                  refine lv_topi (fun x_198 ex_198 => ?_)
                  refine lv_iload hx hb dX12_endDeal_97 (lv_at hl 0 rfl) ?_
                  refine lv_iadd hx hb dX12_endDeal_99 ?_
                  refine lv_topi (fun x_199 ex_199 => ?_)
                  refine lv_dup2_11 hx hb dX12_endDeal_100 rfl rfl ?_
                  have hi_hr_200 : zEq x_199.toInt (x1.toInt + y_153.toInt + 39) := by
                    obtain ⟨f_198, l_198, u_198⟩ := z_add ex_198 rfl ti_39
                    try replace f_198 : x_198.toInt = x1.toInt + 39 := by omega
                    clear l_198 u_198
                    have g_201 := z_rng y_153
                    obtain ⟨f_199, l_199, u_199⟩ := z_add ex_199 rfl rfl
                    try replace f_199 : x_199.toInt = x_198.toInt + y_153.toInt := by omega
                    clear l_199 u_199
                    show x_199.toInt = (x1.toInt + y_153.toInt + 39)
                    omega
                  have hl_hr_200 : 39 ≤ y_153.toInt + 39 ∧ y_153.toInt + 39 ≤ 42 := by
                    have g_202 := z_rng y_153
                    omega
                  have hid_hr_200 : (x1.toInt + y_153.toInt + 39) = x1.toInt + (y_153.toInt + 39) := by simp only [Int.add_assoc, Int.add_sub_assoc]
                  have hr_200 := z_cell (lo := 39) (hi := 42) hp0 hi_hr_200 hid_hr_200 hl_hr_200 (by decide)
                  replace hid_hr_200 : zEq (x1.toInt + y_153.toInt + 39) (x1.toInt + (y_153.toInt + 39)) := hid_hr_200
                  have hin_203 : vp_in x_199 (zn K (zr K a0 0)) := vp_in_iff.mpr (by rw [(hf_1.2.2 (by decide))]; exact hr_200.in)
                  refine mld_40 C hs hP hf_1.1 hf_1.2.1 hin_203 dX12_endDeal_101 ?_
                  have ep_204 : x_199.toNatClampNeg = (x1.toInt + y_153.toInt + 39).toNat := z_posE hi_hr_200
                  rw [ep_204]
                  refine lv_aload_n hx hb dX12_endDeal_102 rfl (lv_at hl 4 rfl) ?_
                  refine mg_0 C hs hP ha0 hk0 wf_X12_8 dX12_endDeal_103 ?_
                  refine lv_iload_n hx hb dX12_endDeal_106 rfl (lv_at hl 5 rfl) ?_
                  refine lv_bipush (v := 35) hx hb dX12_endDeal_107 (by decide) ?_
                  refine lv_iadd hx hb dX12_endDeal_109 ?_
                  refine lv_topi (fun x_205 ex_205 => ?_)
                  refine lv_iload hx hb dX12_endDeal_110 (lv_at hl 0 rfl) ?_
                  refine lv_iadd hx hb dX12_endDeal_112 ?_
                  refine lv_topi (fun x_206 ex_206 => ?_)
                  have hi_hr_207 : zEq x_206.toInt (x1.toInt + y_153.toInt + 35) := by
                    obtain ⟨f_205, l_205, u_205⟩ := z_add ex_205 rfl ti_35
                    try replace f_205 : x_205.toInt = x1.toInt + 35 := by omega
                    clear l_205 u_205
                    have g_208 := z_rng y_153
                    obtain ⟨f_206, l_206, u_206⟩ := z_add ex_206 rfl rfl
                    try replace f_206 : x_206.toInt = x_205.toInt + y_153.toInt := by omega
                    clear l_206 u_206
                    show x_206.toInt = (x1.toInt + y_153.toInt + 35)
                    omega
                  have hl_hr_207 : 35 ≤ y_153.toInt + 35 ∧ y_153.toInt + 35 ≤ 38 := by
                    have g_209 := z_rng y_153
                    omega
                  have hid_hr_207 : (x1.toInt + y_153.toInt + 35) = x1.toInt + (y_153.toInt + 35) := by simp only [Int.add_assoc, Int.add_sub_assoc]
                  have hr_207 := z_cell (lo := 35) (hi := 38) hp0 hi_hr_207 hid_hr_207 hl_hr_207 (by decide)
                  replace hid_hr_207 : zEq (x1.toInt + y_153.toInt + 35) (x1.toInt + (y_153.toInt + 35)) := hid_hr_207
                  have hin_210 : vp_in x_206 (zn K (zr K a0 0)) := vp_in_iff.mpr (by rw [(hf_1.2.2 (by decide))]; exact hr_207.in)
                  refine mld_40 C hs hP hf_1.1 hf_1.2.1 hin_210 dX12_endDeal_113 ?_
                  have ep_211 : x_206.toNatClampNeg = (x1.toInt + y_153.toInt + 35).toNat := z_posE hi_hr_207
                  rw [ep_211]
                  obtain ⟨f_205, l_205, u_205⟩ := z_add ex_205 rfl ti_35
                  try replace f_205 : x_205.toInt = x1.toInt + 35 := by omega
                  clear l_205 u_205
                  have g_213 := z_rng y_153
                  obtain ⟨f_206, l_206, u_206⟩ := z_add ex_206 rfl rfl
                  try replace f_206 : x_206.toInt = x_205.toInt + y_153.toInt := by omega
                  clear l_206 u_206
                  have hc_212 := FC_155 (x1.toInt + y_153.toInt + 35) (by omega) (by simp only [List.mem_cons, List.not_mem_nil, or_false, forall_eq_or_imp, forall_eq]; omega)
                  have ev_214 : A_155 40 (x1.toInt + y_153.toInt + 35).toNat = A 40 (x1.toInt + y_153.toInt + 35).toNat := by rw [hc_212]
                  have tv_215 := rv_35 hT hr_207
                  rw [ep_211] at tv_215
                  rw [ev_214] at tv_215
                  rw [ev_214]
                  refine lv_iconst (v := 1) hx hb dX12_endDeal_114 (by decide) ?_
                  have J_127_220 : ∀ (y_219 : Int32) (ls : Array Slot), lv_has ls 7 [(0, .ref a0), (1, .int x1), (2, .int x2), (3, .int y_14), (4, .int x_23), (5, .int x_42), (6, .int y_153)] → W p l e (rmd 2) s m args below meth c H locs 0 0 Q (F0 m 127 ls [.int y_219, .int (A_155 40 (x1.toInt + y_153.toInt + 39).toNat), .int x_199, .ref (zr K a0 0)]) := by
                    intro y_219 ls hl
                    refine lv_iadd hx hb dX12_endDeal_127 ?_
                    refine lv_topi (fun x_222 ex_222 => ?_)
                    have hin_223 : vp_in x_199 (zn K (zr K a0 0)) := vp_in_iff.mpr (by rw [(hf_1.2.2 (by decide))]; exact hr_200.in)
                    refine mst_40 C hM hs hP hS hf_1.1 hT hf_1.2.1 hin_223 (tp_39 hr_200) dX12_endDeal_128 (fun A_224 H locs hE_224 hT hP hS => ?_)
                    have ep_225 : x_199.toNatClampNeg = (x1.toInt + y_153.toInt + 39).toNat := z_posE hi_hr_200
                    rw [ep_225] at hE_224
                    have FA := frA FA (frAu hE_224) (by decide)
                    have FC := fC.tr FC (fC.st (b := x1.toInt) (lo := 39) (hi := 42) hE_224 hb0.1 (by decide) hid_hr_200 hl_hr_200) (by decide)
                    obtain ⟨x_226, ex_226⟩ : ∃ y : Int32, y = y_153 + 2 := ⟨_, rfl⟩
                    refine lv_iinc (v := x_226) (lv' := [(6, .int x_226), (0, .ref a0), (1, .int x1), (2, .int x2), (3, .int y_14), (4, .int x_23), (5, .int x_42)]) hx hb dX12_endDeal_129 hl (k := 6) rfl (by rw [ex_226]; rfl) (by decide) rfl (fun ls hl => ?_)
                    refine lv_goto (tgt := 78) hx hb dX12_endDeal_132 (by decide) ?_
                    obtain ⟨f_226, l_226, u_226⟩ := z_add ex_226 rfl ti_2
                    try replace f_226 : x_226.toInt = y_153.toInt + 2 := by omega
                    clear l_226 u_226
                    have g_227 := z_rng x_42
                    obtain ⟨f_198, l_198, u_198⟩ := z_add ex_198 rfl ti_39
                    try replace f_198 : x_198.toInt = x1.toInt + 39 := by omega
                    clear l_198 u_198
                    obtain ⟨f_199, l_199, u_199⟩ := z_add ex_199 rfl rfl
                    try replace f_199 : x_199.toInt = x_198.toInt + y_153.toInt := by omega
                    clear l_199 u_199
                    have es_228 : A_224 40 (x1.toInt + 5).toNat = A_155 40 (x1.toInt + 5).toNat := by rw [hE_224, va_up_self, pk_un (show (x1.toInt + 5).toNat ≠ (x1.toInt + y_153.toInt + 39).toNat by omega)]
                    exact ih_154 A_224 _ _ x_226 _ (by omega) (by omega) (by rw [es_228]; exact iv_155_1) FA FC hT hP hS (lv_sub hl [0, 6, 5, 4, 1, 2, 3] rfl)
                  refine bi_ne (tgt := 126) hx hb rfl ti_1 dX12_endDeal_115 (by decide) (fun c_216 => ?_) (fun c_216 => ?_)
                  · skip
                    refine lv_iconst (v := 0) hx hb dX12_endDeal_126 (by decide) ?_
                    exact J_127_220 0 _ (lv_sub hl [4, 5, 6, 3, 2, 1, 0] rfl)
                  · skip
                    refine lv_iload hx hb dX12_endDeal_118 (lv_at hl 2 rfl) ?_
                    refine lv_iload hx hb dX12_endDeal_120 (lv_at hl 1 rfl) ?_
                    have hz_229 : ¬ x_42 = 0 := fun h9 => by have h8 := congrArg Int32.toInt h9; rw [ti_0] at h8; omega
                    refine lv_idiv hx hb dX12_endDeal_122 hz_229 ?_
                    refine lv_topi (fun x_230 ex_230 => ?_)
                    refine lv_goto (tgt := 127) hx hb dX12_endDeal_123 (by decide) ?_
                    exact J_127_220 x_230 _ (lv_sub hl [4, 5, 6, 3, 2, 1, 0] rfl)
          have g_231 := z_rng x_42
          have es_232 : A_151 40 (x1.toInt + 5).toNat = A_16 40 (x1.toInt + 5).toNat := by rw [hA_151 40 (by decide), hA_23 40 (by decide)]
          exact L_78_154 _ A_151 _ _ y_14 _ (Nat.lt_succ_self _) (by omega) (by rw [es_232]; exact iv_16_2) FA FC hT hP hS (lv_sub hl [0, 1, 2, 3, 4, 5, 6] rfl)
  have g_233 := z_rng x1
  obtain ⟨f_8, l_8, u_8⟩ := z_add ex_8 rfl ti_9
  try replace f_8 : x_8.toInt = x1.toInt + 9 := by omega
  clear l_8 u_8
  have es_234 : A_12 40 (x1.toInt + 5).toNat = (2 : Int32) := by rw [hE_12, va_up_self, pk_un (show (x1.toInt + 5).toNat ≠ (x1.toInt + 9).toNat by omega), hE_6, va_up_self, pk_us]
  exact L_21_15 _ f A_12 _ _ 0 _ (Nat.lt_succ_self _) (by (try simp only [ti_0]); omega) (by rw [ti_0]; decide) (by rw [es_234]; exact ti_2) (Int.le_refl _) (by rw [ti_0]; omega) (fun _ => rfl) (Int.le_refl _) (by rw [ti_0]; omega) (by omega) (by omega) FA FC FF hT hP hS (lv_sub hl [0, 1, 2, 3] rfl)
set_option maxHeartbeats 4000000 in
set_option maxRecDepth 100000 in
theorem c_X12_endTrick (l : Launch) (D : va_G) (K : zK) (hM : mK K) (f : Nat → Int32) (A : Nat → Nat → Int32) (hT : mT f A) (a0 : Nat) (ha0 : a0 ∈ zl K) (hk0 : zk K a0 = 11) (x1 : Int32) (x2 : Int32) (hp0 : zRow x1.toInt) (hp1 : rowP (A 40) x1.toInt) (hp2 : 1 ≤ (A 40 (x1.toInt + 26).toNat).toInt) (hp3 : (f 11).toInt ≤ 1960000000) (hp4 : (f 9).toInt ≤ 1960000000) : Met l yX12_endTrick (zc yX12_endTrick cX12_endTrick 9 none) (rmd 4) (va_Pc [.ref a0, .int x1, .int x2] (zB D K (mV K f A))) (mQv D K (fun f' A' => mT f' A' ∧ (∀ k, k ∉ ([40, 48, 50, 53, 55] : List Nat) → A' k = A k) ∧ (∀ k, k ∉ ([9, 11, 14, 16] : List Nat) → f' k = f k) ∧ fC (A 40) (A' 40) x1.toInt ([(5, 5), (9, 9), (15, 18), (19, 19), (20, 20), (26, 26), (39, 42), (110, 169), (470, 529), (530, 589), (590, 649)] : List (Int × Int)) ∧ wz (A 40) (A' 40) x1.toInt ∧ (f 9).toInt ≤ (f' 9).toInt ∧ (f' 9).toInt ≤ (f 9).toInt + 2 ∧ (f 11).toInt ≤ (f' 11).toInt ∧ (f' 11).toInt ≤ (f 11).toInt + 13 ∧ ((f 12).toInt ≠ 0 → (f' 11).toInt = (f 11).toInt) ∧ rowN (A' 40) x1.toInt)) 0 0 (zA K) := by
  refine zin (by decide) (Nat.le_of_ble_eq_true rfl) ?_
  intro p e s m args below meth c ls Q hQ C hr hlk hP hs hl
  have C : CallFix p m c cX12_endTrick 9 s args zw RX12 := C
  obtain ⟨hx, hb, hml, hown, hts⟩ := id C
  have hO := hM.1
  have hS : va_S (zA K) s.heap s.heap [] := va_S.rf
  have FA : ∀ k, k ∉ ([40, 48, 50, 53, 55] : List Nat) → A k = A k := fun _ _ => rfl
  have FF : ∀ k, k ∉ ([9, 11, 14, 16] : List Nat) → f k = f k := fun _ _ => rfl
  have FC : fC (A 40) (A 40) x1.toInt ([(5, 5), (9, 9), (15, 18), (19, 19), (20, 20), (26, 26), (39, 42), (110, 169), (470, 529), (530, 589), (590, 649)] : List (Int × Int)) := fun _ _ _ => rfl
  have WZ : wz (A 40) (A 40) x1.toInt := wz.rf
  have hl : lv_has ls 9 [(0, .ref a0), (1, .int x1), (2, .int x2)] := hl
  have hb0 := hp0.lin
  have tR0 := hT.row hp0
  have hSn := hS_nn (A 40) x1.toInt
  have t21 := tR0.p21
  have t26 := tR0.p26
  have t20 := tR0.p20
  have t43 := tR0.p43
  have hrs := hp1.1
  unfold rS at hrs
  refine lv_aload_n hx hb dX12_endTrick_0 rfl (lv_at hl 0 rfl) ?_
  refine lv_iload_n hx hb dX12_endTrick_1 rfl (lv_at hl 1 rfl) ?_
  refine lv_iconst (v := 0) hx hb dX12_endTrick_2 (by decide) ?_
  have g_1 := z_rng x1
  have hq_2 : 0 ≤ (0 : Int32).toInt ∧ (0 : Int32).toInt ≤ 3 := by ((try simp only [ti_0]); first | assumption | omega | (intros; omega))
  refine mcV (zrV (As := [.int x1, .int 0]) (b := a0) (rest := []) C hs hP hS (c_X12_look l D K hM f A hT a0 ha0 hk0 x1 0 hp0 hq_2) m_X12_look wm_X12_205 (zrecv hs hP ha0 (zF_11 hk0) rfl) ⟨by decide, by decide⟩ hl.1 (Nat.le_of_ble_eq_true rfl) dX12_endTrick_3) hS (fun f_3 A_3 H locs p_3 hP hS => ?_)
  obtain ⟨hT, hA_3, hF_3, pp_3⟩ := p_3
  have pp_3 : (f_3 16).toInt = (A 40 (x1.toInt + 26).toNat).toInt := pp_3
  have pp0_3 := pp_3
  try simp only [ti_0] at pp_3
  have FA := frA FA hA_3 (by decide)
  have FF := frF FF hF_3 (by decide)
  have FC := fC.eq FC (hA_3 40 (by decide))
  have WZ := wz.eq WZ (hA_3 40 (by decide))
  refine lv_aload_n hx hb dX12_endTrick_6 rfl (lv_at hl 0 rfl) ?_
  refine lv_iload_n hx hb dX12_endTrick_7 rfl (lv_at hl 1 rfl) ?_
  have hq_4 : 1 ≤ (f_3 16).toInt := by (first | assumption | omega | (intros; omega))
  have ev_6 : f_3 11 = f 11 := by rw [hF_3 11 (by decide)]
  have hq_5 : (f_3 11).toInt ≤ 1980000000 := by rw [ev_6] <;> (first | assumption | omega | (intros; omega))
  refine mcI (zrV (As := [.int x1]) (b := a0) (rest := []) C hs hP hS (c_X12_wins l D K hM f_3 A_3 hT a0 ha0 hk0 x1 hp0 hq_4 hq_5) m_X12_wins wm_X12_220 (zrecv hs hP ha0 (zF_11 hk0) rfl) ⟨by decide, by decide⟩ hl.1 (Nat.le_of_ble_eq_true rfl) dX12_endTrick_8) hS (fun x_7 f_7 A_7 H locs p_7 hP hS => ?_)
  obtain ⟨hT, hA_7, hF_7, pp_7⟩ := p_7
  have pp_7 : (f_3 11).toInt ≤ (f_7 11).toInt ∧ (f_7 11).toInt ≤ (f_3 11).toInt + 3 ∧ ((f_3 12).toInt ≠ 0 → (f_7 11).toInt = (f_3 11).toInt) ∧ 0 ≤ x_7.toInt ∧ x_7.toInt < (f_3 16).toInt := pp_7
  have pp0_7 := pp_7
  have ev_8 : f_3 11 = f 11 := by rw [hF_3 11 (by decide)]
  have ev_9 : f_3 12 = f 12 := by rw [hF_3 12 (by decide)]
  rw [ev_8, ev_9] at pp_7
  have FA := frA FA hA_7 (by decide)
  have FF := frF FF hF_7 (by decide)
  have FC := fC.eq FC (hA_7 40 (by decide))
  have WZ := wz.eq WZ (hA_7 40 (by decide))
  refine lv_istore_n (lv' := [(3, .int x_7), (0, .ref a0), (1, .int x1), (2, .int x2)]) hx hb dX12_endTrick_11 rfl hl (by decide) rfl (fun ls hl => ?_)
  refine lv_aload_n hx hb dX12_endTrick_12 rfl (lv_at hl 1 rfl) ?_
  refine mg_0 C hs hP ha0 hk0 wf_X12_8 dX12_endTrick_13 ?_
  have hf_10 := hO.r (j := 0) ha0 hk0 (rfl : zX 11 0 = some (40, 47730))
  refine lv_iload_n hx hb dX12_endTrick_16 rfl (lv_at hl 2 rfl) ?_
  refine lv_bipush (v := 31) hx hb dX12_endTrick_17 (by decide) ?_
  refine lv_iadd hx hb dX12_endTrick_19 ?_
  refine lv_topi (fun x_11 ex_11 => ?_)
  refine lv_iload_n hx hb dX12_endTrick_20 rfl (lv_at hl 0 rfl) ?_
  refine lv_iadd hx hb dX12_endTrick_21 ?_
  refine lv_topi (fun x_12 ex_12 => ?_)
  have hi_hr_13 : zEq x_12.toInt (x1.toInt + x_7.toInt + 31) := by
    obtain ⟨f_11, l_11, u_11⟩ := z_add ex_11 rfl ti_31
    try replace f_11 : x_11.toInt = x1.toInt + 31 := by omega
    clear l_11 u_11
    have g_14 := z_rng x_7
    obtain ⟨f_12, l_12, u_12⟩ := z_add ex_12 rfl rfl
    try replace f_12 : x_12.toInt = x_11.toInt + x_7.toInt := by omega
    clear l_12 u_12
    show x_12.toInt = (x1.toInt + x_7.toInt + 31)
    omega
  have hl_hr_13 : 31 ≤ x_7.toInt + 31 ∧ x_7.toInt + 31 ≤ 34 := by
    have g_15 := z_rng x_7
    omega
  have hid_hr_13 : (x1.toInt + x_7.toInt + 31) = x1.toInt + (x_7.toInt + 31) := by simp only [Int.add_assoc, Int.add_sub_assoc]
  have hr_13 := z_cell (lo := 31) (hi := 34) hp0 hi_hr_13 hid_hr_13 hl_hr_13 (by decide)
  replace hid_hr_13 : zEq (x1.toInt + x_7.toInt + 31) (x1.toInt + (x_7.toInt + 31)) := hid_hr_13
  have hin_16 : vp_in x_12 (zn K (zr K a0 0)) := vp_in_iff.mpr (by rw [(hf_10.2.2 (by decide))]; exact hr_13.in)
  refine mld_40 C hs hP hf_10.1 hf_10.2.1 hin_16 dX12_endTrick_22 ?_
  have ep_17 : x_12.toNatClampNeg = (x1.toInt + x_7.toInt + 31).toNat := z_posE hi_hr_13
  rw [ep_17]
  have ev_18 : A_7 40 (x1.toInt + x_7.toInt + 31).toNat = A 40 (x1.toInt + x_7.toInt + 31).toNat := by rw [hA_7 40 (by decide), hA_3 40 (by decide)]
  have tv_19 := rv_31 hT hr_13
  rw [ep_17] at tv_19
  rw [ev_18] at tv_19
  rw [ev_18]
  refine lv_istore (lv' := [(4, .int (A 40 (x1.toInt + x_7.toInt + 31).toNat)), (3, .int x_7), (0, .ref a0), (1, .int x1), (2, .int x2)]) hx hb dX12_endTrick_23 hl (by decide) rfl (fun ls hl => ?_)
  refine lv_iload hx hb dX12_endTrick_25 (lv_at hl 0 rfl) ?_
  refine lv_iconst (v := 2) hx hb dX12_endTrick_27 (by decide) ?_
  refine lv_irem hx hb dX12_endTrick_28 (by decide) ?_
  refine lv_topi (fun x_20 ex_20 => ?_)
  refine lv_istore (lv' := [(5, .int x_20), (4, .int (A 40 (x1.toInt + x_7.toInt + 31).toNat)), (3, .int x_7), (0, .ref a0), (1, .int x1), (2, .int x2)]) hx hb dX12_endTrick_29 hl (by decide) rfl (fun ls hl => ?_)
  refine lv_aload_n hx hb dX12_endTrick_31 rfl (lv_at hl 3 rfl) ?_
  refine lv_iload_n hx hb dX12_endTrick_32 rfl (lv_at hl 4 rfl) ?_
  refine lv_iload_n hx hb dX12_endTrick_33 rfl (lv_at hl 2 rfl) ?_
  have g_21 := z_rng x_7
  have hq_22 : 0 ≤ x_7.toInt ∧ x_7.toInt ≤ 3 := by (first | assumption | omega | (intros; omega))
  have hq_23 : (f_7 11).toInt ≤ 1980000000 := by (first | assumption | omega | (intros; omega))
  refine mcI (zrV (As := [.int x1, .int x_7]) (b := a0) (rest := []) C hs hP hS (c_X12_score l D K hM f_7 A_7 hT a0 ha0 hk0 x1 x_7 hp0 hq_22 hq_23) m_X12_score wm_X12_223 (zrecv hs hP ha0 (zF_11 hk0) rfl) ⟨by decide, by decide⟩ hl.1 (Nat.le_of_ble_eq_true rfl) dX12_endTrick_34) hS (fun x_24 f_24 A_24 H locs p_24 hP hS => ?_)
  obtain ⟨hT, hA_24, hF_24, pp_24⟩ := p_24
  have pp_24 : (f_7 11).toInt ≤ (f_24 11).toInt ∧ (f_24 11).toInt ≤ (f_7 11).toInt + 4 ∧ ((f_7 12).toInt ≠ 0 → (f_24 11).toInt = (f_7 11).toInt) := pp_24
  have pp0_24 := pp_24
  have ev_25 : f_7 12 = f 12 := by rw [hF_7 12 (by decide), hF_3 12 (by decide)]
  rw [ev_25] at pp_24
  have FA := frA FA hA_24 (by decide)
  have FF := frF FF hF_24 (by decide)
  have FC := fC.eq FC (hA_24 40 (by decide))
  have WZ := wz.eq WZ (hA_24 40 (by decide))
  refine lv_istore (lv' := [(6, .int x_24), (5, .int x_20), (4, .int (A 40 (x1.toInt + x_7.toInt + 31).toNat)), (3, .int x_7), (0, .ref a0), (1, .int x1), (2, .int x2)]) hx hb dX12_endTrick_37 hl (by decide) rfl (fun ls hl => ?_)
  refine lv_aload_n hx hb dX12_endTrick_39 rfl (lv_at hl 4 rfl) ?_
  refine mg_0 C hs hP ha0 hk0 wf_X12_8 dX12_endTrick_40 ?_
  refine lv_iload_n hx hb dX12_endTrick_43 rfl (lv_at hl 5 rfl) ?_
  refine lv_bipush (v := 20) hx hb dX12_endTrick_44 (by decide) ?_
  refine lv_iadd hx hb dX12_endTrick_46 ?_
  refine lv_topi (fun x_26 ex_26 => ?_)
  have hi_hr_27 : zEq x_26.toInt (x1.toInt + 20) := by
    obtain ⟨f_26, l_26, u_26⟩ := z_add ex_26 rfl ti_20
    try replace f_26 : x_26.toInt = x1.toInt + 20 := by omega
    clear l_26 u_26
    show x_26.toInt = (x1.toInt + 20)
    omega
  have hl_hr_27 : (20 : Int) ≤ 20 ∧ 20 ≤ (20 : Int) := by decide
  have hid_hr_27 : (x1.toInt + 20) = x1.toInt + (20) := by simp only [Int.add_assoc, Int.add_sub_assoc]
  have hr_27 := z_cell (lo := 20) (hi := 21) hp0 hi_hr_27 hid_hr_27 hl_hr_27 (by decide)
  replace hid_hr_27 : zEq (x1.toInt + 20) (x1.toInt + (20)) := hid_hr_27
  have hin_28 : vp_in x_26 (zn K (zr K a0 0)) := vp_in_iff.mpr (by rw [(hf_10.2.2 (by decide))]; exact hr_27.in)
  refine mld_40 C hs hP hf_10.1 hf_10.2.1 hin_28 dX12_endTrick_47 ?_
  have ep_29 : x_26.toNatClampNeg = (x1.toInt + 20).toNat := z_posE hi_hr_27
  rw [ep_29]
  have ev_30 : A_24 40 (x1.toInt + 20).toNat = A 40 (x1.toInt + 20).toNat := by rw [hA_24 40 (by decide), hA_7 40 (by decide), hA_3 40 (by decide)]
  have tv_31 := rv_20 hT hr_27
  rw [ep_29] at tv_31
  rw [ev_30] at tv_31
  rw [ev_30]
  refine lv_istore (lv' := [(7, .int (A 40 (x1.toInt + 20).toNat)), (6, .int x_24), (5, .int x_20), (4, .int (A 40 (x1.toInt + x_7.toInt + 31).toNat)), (3, .int x_7), (0, .ref a0), (1, .int x1), (2, .int x2)]) hx hb dX12_endTrick_48 hl (by decide) rfl (fun ls hl => ?_)
  refine lv_aload_n hx hb dX12_endTrick_50 rfl (lv_at hl 5 rfl) ?_
  refine mg_0 C hs hP ha0 hk0 wf_X12_8 dX12_endTrick_51 ?_
  refine lv_iload_n hx hb dX12_endTrick_54 rfl (lv_at hl 6 rfl) ?_
  refine lv_sipush (v := 530) hx hb dX12_endTrick_55 (by decide) ?_
  refine lv_iadd hx hb dX12_endTrick_58 ?_
  refine lv_topi (fun x_32 ex_32 => ?_)
  refine lv_iload hx hb dX12_endTrick_59 (lv_at hl 0 rfl) ?_
  refine lv_iadd hx hb dX12_endTrick_61 ?_
  refine lv_topi (fun x_33 ex_33 => ?_)
  refine lv_iload hx hb dX12_endTrick_62 (lv_at hl 2 rfl) ?_
  have hi_hr_34 : zEq x_33.toInt (x1.toInt + (A 40 (x1.toInt + 20).toNat).toInt + 530) := by
    obtain ⟨f_32, l_32, u_32⟩ := z_add ex_32 rfl ti_530
    try replace f_32 : x_32.toInt = x1.toInt + 530 := by omega
    clear l_32 u_32
    have g_35 := z_rng (A 40 (x1.toInt + 20).toNat)
    obtain ⟨f_33, l_33, u_33⟩ := z_add ex_33 rfl rfl
    try replace f_33 : x_33.toInt = x_32.toInt + (A 40 (x1.toInt + 20).toNat).toInt := by omega
    clear l_33 u_33
    show x_33.toInt = (x1.toInt + (A 40 (x1.toInt + 20).toNat).toInt + 530)
    omega
  have hl_hr_34 : 530 ≤ (A 40 (x1.toInt + 20).toNat).toInt + 530 ∧ (A 40 (x1.toInt + 20).toNat).toInt + 530 ≤ 589 := by
    have g_36 := z_rng (A 40 (x1.toInt + 20).toNat)
    omega
  have hid_hr_34 : (x1.toInt + (A 40 (x1.toInt + 20).toNat).toInt + 530) = x1.toInt + ((A 40 (x1.toInt + 20).toNat).toInt + 530) := by simp only [Int.add_assoc, Int.add_sub_assoc]
  have hr_34 := z_cell (lo := 470) (hi := 769) hp0 hi_hr_34 hid_hr_34 hl_hr_34 (by decide)
  replace hid_hr_34 : zEq (x1.toInt + (A 40 (x1.toInt + 20).toNat).toInt + 530) (x1.toInt + ((A 40 (x1.toInt + 20).toNat).toInt + 530)) := hid_hr_34
  have hin_37 : vp_in x_33 (zn K (zr K a0 0)) := vp_in_iff.mpr (by rw [(hf_10.2.2 (by decide))]; exact hr_34.in)
  refine mst_40 C hM hs hP hS hf_10.1 hT hf_10.2.1 hin_37 (tp_470 hr_34) dX12_endTrick_64 (fun A_38 H locs hE_38 hT hP hS => ?_)
  have ep_39 : x_33.toNatClampNeg = (x1.toInt + (A 40 (x1.toInt + 20).toNat).toInt + 530).toNat := z_posE hi_hr_34
  rw [ep_39] at hE_38
  have FA := frA FA (frAu hE_38) (by decide)
  have FC := fC.tr FC (fC.st (b := x1.toInt) (lo := 530) (hi := 589) hE_38 hb0.1 (by decide) hid_hr_34 hl_hr_34) (by decide)
  have WZ := wz.st WZ hE_38 (Or.inr (by omega))
  refine lv_aload_n hx hb dX12_endTrick_65 rfl (lv_at hl 5 rfl) ?_
  refine mg_0 C hs hP ha0 hk0 wf_X12_8 dX12_endTrick_66 ?_
  refine lv_iload_n hx hb dX12_endTrick_69 rfl (lv_at hl 6 rfl) ?_
  refine lv_sipush (v := 590) hx hb dX12_endTrick_70 (by decide) ?_
  refine lv_iadd hx hb dX12_endTrick_73 ?_
  refine lv_topi (fun x_40 ex_40 => ?_)
  refine lv_iload hx hb dX12_endTrick_74 (lv_at hl 0 rfl) ?_
  refine lv_iadd hx hb dX12_endTrick_76 ?_
  refine lv_topi (fun x_41 ex_41 => ?_)
  refine lv_iload hx hb dX12_endTrick_77 (lv_at hl 1 rfl) ?_
  have hi_hr_42 : zEq x_41.toInt (x1.toInt + (A 40 (x1.toInt + 20).toNat).toInt + 590) := by
    obtain ⟨f_40, l_40, u_40⟩ := z_add ex_40 rfl ti_590
    try replace f_40 : x_40.toInt = x1.toInt + 590 := by omega
    clear l_40 u_40
    have g_43 := z_rng (A 40 (x1.toInt + 20).toNat)
    obtain ⟨f_41, l_41, u_41⟩ := z_add ex_41 rfl rfl
    try replace f_41 : x_41.toInt = x_40.toInt + (A 40 (x1.toInt + 20).toNat).toInt := by omega
    clear l_41 u_41
    show x_41.toInt = (x1.toInt + (A 40 (x1.toInt + 20).toNat).toInt + 590)
    omega
  have hl_hr_42 : 590 ≤ (A 40 (x1.toInt + 20).toNat).toInt + 590 ∧ (A 40 (x1.toInt + 20).toNat).toInt + 590 ≤ 649 := by
    have g_44 := z_rng (A 40 (x1.toInt + 20).toNat)
    omega
  have hid_hr_42 : (x1.toInt + (A 40 (x1.toInt + 20).toNat).toInt + 590) = x1.toInt + ((A 40 (x1.toInt + 20).toNat).toInt + 590) := by simp only [Int.add_assoc, Int.add_sub_assoc]
  have hr_42 := z_cell (lo := 470) (hi := 769) hp0 hi_hr_42 hid_hr_42 hl_hr_42 (by decide)
  replace hid_hr_42 : zEq (x1.toInt + (A 40 (x1.toInt + 20).toNat).toInt + 590) (x1.toInt + ((A 40 (x1.toInt + 20).toNat).toInt + 590)) := hid_hr_42
  have hin_45 : vp_in x_41 (zn K (zr K a0 0)) := vp_in_iff.mpr (by rw [(hf_10.2.2 (by decide))]; exact hr_42.in)
  refine mst_40 C hM hs hP hS hf_10.1 hT hf_10.2.1 hin_45 (tp_470 hr_42) dX12_endTrick_79 (fun A_46 H locs hE_46 hT hP hS => ?_)
  have ep_47 : x_41.toNatClampNeg = (x1.toInt + (A 40 (x1.toInt + 20).toNat).toInt + 590).toNat := z_posE hi_hr_42
  rw [ep_47] at hE_46
  have FA := frA FA (frAu hE_46) (by decide)
  have FC := fC.tr FC (fC.st (b := x1.toInt) (lo := 590) (hi := 649) hE_46 hb0.1 (by decide) hid_hr_42 hl_hr_42) (by decide)
  have WZ := wz.st WZ hE_46 (Or.inr (by omega))
  refine lv_aload_n hx hb dX12_endTrick_80 rfl (lv_at hl 5 rfl) ?_
  refine mg_0 C hs hP ha0 hk0 wf_X12_8 dX12_endTrick_81 ?_
  refine lv_iload_n hx hb dX12_endTrick_84 rfl (lv_at hl 6 rfl) ?_
  refine lv_bipush (v := 15) hx hb dX12_endTrick_85 (by decide) ?_
  refine lv_iadd hx hb dX12_endTrick_87 ?_
  refine lv_topi (fun x_48 ex_48 => ?_)
  refine lv_iload hx hb dX12_endTrick_88 (lv_at hl 2 rfl) ?_
  refine lv_iadd hx hb dX12_endTrick_90 ?_
  refine lv_topi (fun x_49 ex_49 => ?_)
  refine lv_dup2_11 hx hb dX12_endTrick_91 rfl rfl ?_
  have hi_hr_50 : zEq x_49.toInt (x1.toInt + x_20.toInt + 15) := by
    obtain ⟨f_48, l_48, u_48⟩ := z_add ex_48 rfl ti_15
    try replace f_48 : x_48.toInt = x1.toInt + 15 := by omega
    clear l_48 u_48
    have g_51 := z_rng (A 40 (x1.toInt + x_7.toInt + 31).toNat)
    have f_20 := z_rem ex_20 rfl ti_2 (by decide)
    obtain ⟨f_49, l_49, u_49⟩ := z_add ex_49 rfl rfl
    try replace f_49 : x_49.toInt = x_48.toInt + x_20.toInt := by omega
    clear l_49 u_49
    show x_49.toInt = (x1.toInt + x_20.toInt + 15)
    omega
  have hl_hr_50 : 15 ≤ x_20.toInt + 15 ∧ x_20.toInt + 15 ≤ 16 := by
    have g_52 := z_rng (A 40 (x1.toInt + x_7.toInt + 31).toNat)
    have f_20 := z_rem ex_20 rfl ti_2 (by decide)
    omega
  have hid_hr_50 : (x1.toInt + x_20.toInt + 15) = x1.toInt + (x_20.toInt + 15) := by simp only [Int.add_assoc, Int.add_sub_assoc]
  have hr_50 := z_cell (lo := 10) (hi := 19) hp0 hi_hr_50 hid_hr_50 hl_hr_50 (by decide)
  replace hid_hr_50 : zEq (x1.toInt + x_20.toInt + 15) (x1.toInt + (x_20.toInt + 15)) := hid_hr_50
  have hin_53 : vp_in x_49 (zn K (zr K a0 0)) := vp_in_iff.mpr (by rw [(hf_10.2.2 (by decide))]; exact hr_50.in)
  refine mld_40 C hs hP hf_10.1 hf_10.2.1 hin_53 dX12_endTrick_92 ?_
  have ep_54 : x_49.toNatClampNeg = (x1.toInt + x_20.toInt + 15).toNat := z_posE hi_hr_50
  rw [ep_54]
  obtain ⟨f_48, l_48, u_48⟩ := z_add ex_48 rfl ti_15
  try replace f_48 : x_48.toInt = x1.toInt + 15 := by omega
  clear l_48 u_48
  have g_56 := z_rng (A 40 (x1.toInt + x_7.toInt + 31).toNat)
  have f_20 := z_rem ex_20 rfl ti_2 (by decide)
  obtain ⟨f_49, l_49, u_49⟩ := z_add ex_49 rfl rfl
  try replace f_49 : x_49.toInt = x_48.toInt + x_20.toInt := by omega
  clear l_49 u_49
  obtain ⟨f_40, l_40, u_40⟩ := z_add ex_40 rfl ti_590
  try replace f_40 : x_40.toInt = x1.toInt + 590 := by omega
  clear l_40 u_40
  have g_57 := z_rng (A 40 (x1.toInt + 20).toNat)
  obtain ⟨f_41, l_41, u_41⟩ := z_add ex_41 rfl rfl
  try replace f_41 : x_41.toInt = x_40.toInt + (A 40 (x1.toInt + 20).toNat).toInt := by omega
  clear l_41 u_41
  have hn_55 : (x1.toInt + x_20.toInt + 15).toNat ≠ (x1.toInt + (A 40 (x1.toInt + 20).toNat).toInt + 590).toNat := by omega
  obtain ⟨f_32, l_32, u_32⟩ := z_add ex_32 rfl ti_530
  try replace f_32 : x_32.toInt = x1.toInt + 530 := by omega
  clear l_32 u_32
  obtain ⟨f_33, l_33, u_33⟩ := z_add ex_33 rfl rfl
  try replace f_33 : x_33.toInt = x_32.toInt + (A 40 (x1.toInt + 20).toNat).toInt := by omega
  clear l_33 u_33
  have hn_58 : (x1.toInt + x_20.toInt + 15).toNat ≠ (x1.toInt + (A 40 (x1.toInt + 20).toNat).toInt + 530).toNat := by omega
  have ev_59 : A_46 40 (x1.toInt + x_20.toInt + 15).toNat = A 40 (x1.toInt + x_20.toInt + 15).toNat := by rw [hE_46, va_up_self, pk_un hn_55, hE_38, va_up_self, pk_un hn_58, hA_24 40 (by decide), hA_7 40 (by decide), hA_3 40 (by decide)]
  rw [ev_59]
  refine lv_iconst (v := 1) hx hb dX12_endTrick_93 (by decide) ?_
  refine lv_iadd hx hb dX12_endTrick_94 ?_
  refine lv_topi (fun x_60 ex_60 => ?_)
  have hin_61 : vp_in x_49 (zn K (zr K a0 0)) := vp_in_iff.mpr (by rw [(hf_10.2.2 (by decide))]; exact hr_50.in)
  refine mst_40 C hM hs hP hS hf_10.1 hT hf_10.2.1 hin_61 (tp_10 hr_50) dX12_endTrick_95 (fun A_62 H locs hE_62 hT hP hS => ?_)
  have ep_63 : x_49.toNatClampNeg = (x1.toInt + x_20.toInt + 15).toNat := z_posE hi_hr_50
  rw [ep_63] at hE_62
  have FA := frA FA (frAu hE_62) (by decide)
  have FC := fC.tr FC (fC.st (b := x1.toInt) (lo := 15) (hi := 16) hE_62 hb0.1 (by decide) hid_hr_50 hl_hr_50) (by decide)
  have WZ := wz.st WZ hE_62 (Or.inr (by omega))
  refine lv_aload_n hx hb dX12_endTrick_96 rfl (lv_at hl 5 rfl) ?_
  refine mg_0 C hs hP ha0 hk0 wf_X12_8 dX12_endTrick_97 ?_
  refine lv_iload_n hx hb dX12_endTrick_100 rfl (lv_at hl 6 rfl) ?_
  refine lv_bipush (v := 17) hx hb dX12_endTrick_101 (by decide) ?_
  refine lv_iadd hx hb dX12_endTrick_103 ?_
  refine lv_topi (fun x_64 ex_64 => ?_)
  refine lv_iload hx hb dX12_endTrick_104 (lv_at hl 2 rfl) ?_
  refine lv_iadd hx hb dX12_endTrick_106 ?_
  refine lv_topi (fun x_65 ex_65 => ?_)
  refine lv_dup2_11 hx hb dX12_endTrick_107 rfl rfl ?_
  have hi_hr_66 : zEq x_65.toInt (x1.toInt + x_20.toInt + 17) := by
    obtain ⟨f_64, l_64, u_64⟩ := z_add ex_64 rfl ti_17
    try replace f_64 : x_64.toInt = x1.toInt + 17 := by omega
    clear l_64 u_64
    obtain ⟨f_65, l_65, u_65⟩ := z_add ex_65 rfl rfl
    try replace f_65 : x_65.toInt = x_64.toInt + x_20.toInt := by omega
    clear l_65 u_65
    show x_65.toInt = (x1.toInt + x_20.toInt + 17)
    omega
  have hl_hr_66 : 17 ≤ x_20.toInt + 17 ∧ x_20.toInt + 17 ≤ 18 := by
    omega
  have hid_hr_66 : (x1.toInt + x_20.toInt + 17) = x1.toInt + (x_20.toInt + 17) := by simp only [Int.add_assoc, Int.add_sub_assoc]
  have hr_66 := z_cell (lo := 10) (hi := 19) hp0 hi_hr_66 hid_hr_66 hl_hr_66 (by decide)
  replace hid_hr_66 : zEq (x1.toInt + x_20.toInt + 17) (x1.toInt + (x_20.toInt + 17)) := hid_hr_66
  have hin_67 : vp_in x_65 (zn K (zr K a0 0)) := vp_in_iff.mpr (by rw [(hf_10.2.2 (by decide))]; exact hr_66.in)
  refine mld_40 C hs hP hf_10.1 hf_10.2.1 hin_67 dX12_endTrick_108 ?_
  have ep_68 : x_65.toNatClampNeg = (x1.toInt + x_20.toInt + 17).toNat := z_posE hi_hr_66
  rw [ep_68]
  obtain ⟨f_64, l_64, u_64⟩ := z_add ex_64 rfl ti_17
  try replace f_64 : x_64.toInt = x1.toInt + 17 := by omega
  clear l_64 u_64
  obtain ⟨f_65, l_65, u_65⟩ := z_add ex_65 rfl rfl
  try replace f_65 : x_65.toInt = x_64.toInt + x_20.toInt := by omega
  clear l_65 u_65
  have hn_69 : (x1.toInt + x_20.toInt + 17).toNat ≠ (x1.toInt + x_20.toInt + 15).toNat := by omega
  have hn_70 : (x1.toInt + x_20.toInt + 17).toNat ≠ (x1.toInt + (A 40 (x1.toInt + 20).toNat).toInt + 590).toNat := by omega
  have hn_71 : (x1.toInt + x_20.toInt + 17).toNat ≠ (x1.toInt + (A 40 (x1.toInt + 20).toNat).toInt + 530).toNat := by omega
  have ev_72 : A_62 40 (x1.toInt + x_20.toInt + 17).toNat = A 40 (x1.toInt + x_20.toInt + 17).toNat := by rw [hE_62, va_up_self, pk_un hn_69, hE_46, va_up_self, pk_un hn_70, hE_38, va_up_self, pk_un hn_71, hA_24 40 (by decide), hA_7 40 (by decide), hA_3 40 (by decide)]
  rw [ev_72]
  refine lv_iload hx hb dX12_endTrick_109 (lv_at hl 1 rfl) ?_
  refine lv_iadd hx hb dX12_endTrick_111 ?_
  refine lv_topi (fun x_73 ex_73 => ?_)
  have hin_74 : vp_in x_65 (zn K (zr K a0 0)) := vp_in_iff.mpr (by rw [(hf_10.2.2 (by decide))]; exact hr_66.in)
  refine mst_40 C hM hs hP hS hf_10.1 hT hf_10.2.1 hin_74 (tp_10 hr_66) dX12_endTrick_112 (fun A_75 H locs hE_75 hT hP hS => ?_)
  have ep_76 : x_65.toNatClampNeg = (x1.toInt + x_20.toInt + 17).toNat := z_posE hi_hr_66
  rw [ep_76] at hE_75
  have FA := frA FA (frAu hE_75) (by decide)
  have FC := fC.tr FC (fC.st (b := x1.toInt) (lo := 17) (hi := 18) hE_75 hb0.1 (by decide) hid_hr_66 hl_hr_66) (by decide)
  have WZ := wz.st WZ hE_75 (Or.inr (by omega))
  refine lv_iconst (v := 0) hx hb dX12_endTrick_113 (by decide) ?_
  refine lv_istore (lv' := [(8, .int 0), (7, .int (A 40 (x1.toInt + 20).toNat)), (6, .int x_24), (5, .int x_20), (4, .int (A 40 (x1.toInt + x_7.toInt + 31).toNat)), (3, .int x_7), (0, .ref a0), (1, .int x1), (2, .int x2)]) hx hb dX12_endTrick_114 hl (by decide) rfl (fun ls hl => ?_)
  have L_116_78 : ∀ (n_78 : Nat) (A_79 : Nat → Nat → Int32) (H : Heap) (locs : List Loc) (y_77 : Int32) (ls : Array Slot), (2147483648 - y_77.toInt).toNat < n_78 → 0 ≤ y_77.toInt → fC (A 40) (A_79 40) x1.toInt ([(15, 18), (110, 169), (470, 649)] : List (Int × Int)) → (∀ k, k ∉ ([40, 48, 50, 53, 55] : List Nat) → A_79 k = A k) → fC (A 40) (A_79 40) x1.toInt ([(5, 5), (9, 9), (15, 18), (19, 19), (20, 20), (26, 26), (39, 42), (110, 169), (470, 529), (530, 589), (590, 649)] : List (Int × Int)) → wz (A 40) (A_79 40) x1.toInt → mT f_24 A_79 → va_P D vwCl (zW K (mV K f_24 A_79)) H → va_S (zA K) s.heap H locs → lv_has ls 9 [(8, .int y_77), (7, .int (A 40 (x1.toInt + 20).toNat)), (6, .int x_24), (5, .int x_20), (4, .int (A 40 (x1.toInt + x_7.toInt + 31).toNat)), (3, .int x_7), (0, .ref a0), (1, .int x1), (2, .int x2)] → W p l e (rmd 4) s m args below meth c H locs 0 0 Q (F0 m 116 ls []) := by
    intro n_78
    induction n_78 with
    | zero => intro A_79 H locs y_77 ls hm_78; exact absurd hm_78 (Nat.not_lt_zero _)
    | succ n_78 ih_78 =>
      intro A_79 H locs y_77 ls hm_78 iv_79_0 iv_79_1 FA_79 FC_79 WZ_79 hT hP hS hl
      have FA := FA_79
      have FC := FC_79
      have WZ := WZ_79
      have e20q := iv_79_1.ar hb0.1 (lo := 20) (hi := 20) (by decide) (x1.toInt + 20) (by decide) (by omega) (by omega)
      have e21q := iv_79_1.ar hb0.1 (lo := 21) (hi := 21) (by decide) (x1.toInt + 21) (by decide) (by omega) (by omega)
      have e43q := iv_79_1.ar hb0.1 (lo := 43) (hi := 43) (by decide) (x1.toInt + 43) (by decide) (by omega) (by omega)
      refine lv_iload hx hb dX12_endTrick_116 (lv_at hl 0 rfl) ?_
      refine lv_aload_n hx hb dX12_endTrick_118 rfl (lv_at hl 6 rfl) ?_
      refine mg_16 C hs hP ha0 hk0 wf_X12_127 dX12_endTrick_119 ?_
      have ev_81 : f_24 16 = f_3 16 := by rw [hF_24 16 (by decide), hF_7 16 (by decide)]
      rw [ev_81]
      have tf_82 : 0 ≤ (f_3 16).toInt ∧ (f_3 16).toInt ≤ 4 := by rw [← ev_81]; exact hT.1 16
      refine bi_ge (tgt := 173) hx hb rfl rfl dX12_endTrick_122 (by decide) (fun c_83 => ?_) (fun c_83 => ?_)
      · skip
        refine lv_aload_n hx hb dX12_endTrick_173 rfl (lv_at hl 6 rfl) ?_
        refine mg_0 C hs hP ha0 hk0 wf_X12_8 dX12_endTrick_174 ?_
        refine lv_iload_n hx hb dX12_endTrick_177 rfl (lv_at hl 7 rfl) ?_
        refine lv_bipush (v := 26) hx hb dX12_endTrick_178 (by decide) ?_
        refine lv_iadd hx hb dX12_endTrick_180 ?_
        refine lv_topi (fun x_109 ex_109 => ?_)
        refine lv_iconst (v := 0) hx hb dX12_endTrick_181 (by decide) ?_
        have hi_hr_110 : zEq x_109.toInt (x1.toInt + 26) := by
          obtain ⟨f_109, l_109, u_109⟩ := z_add ex_109 rfl ti_26
          try replace f_109 : x_109.toInt = x1.toInt + 26 := by omega
          clear l_109 u_109
          show x_109.toInt = (x1.toInt + 26)
          omega
        have hl_hr_110 : (26 : Int) ≤ 26 ∧ 26 ≤ (26 : Int) := by decide
        have hid_hr_110 : (x1.toInt + 26) = x1.toInt + (26) := by simp only [Int.add_assoc, Int.add_sub_assoc]
        have hr_110 := z_cell (lo := 26) (hi := 26) hp0 hi_hr_110 hid_hr_110 hl_hr_110 (by decide)
        replace hid_hr_110 : zEq (x1.toInt + 26) (x1.toInt + (26)) := hid_hr_110
        have hin_111 : vp_in x_109 (zn K (zr K a0 0)) := vp_in_iff.mpr (by rw [(hf_10.2.2 (by decide))]; exact hr_110.in)
        refine mst_40 C hM hs hP hS hf_10.1 hT hf_10.2.1 hin_111 (tp_26 hr_110 (show 0 ≤ (0 : Int32).toInt ∧ (0 : Int32).toInt ≤ 4 from by rw [ti_0]; omega)) dX12_endTrick_182 (fun A_112 H locs hE_112 hT hP hS => ?_)
        have ep_113 : x_109.toNatClampNeg = (x1.toInt + 26).toNat := z_posE hi_hr_110
        rw [ep_113] at hE_112
        have FA := frA FA (frAu hE_112) (by decide)
        have FC := fC.tr FC (fC.st (b := x1.toInt) (lo := 26) (hi := 26) hE_112 hb0.1 (by decide) hid_hr_110 hl_hr_110) (by decide)
        have WZ := wz.st WZ hE_112 (Or.inr (by omega))
        refine lv_aload_n hx hb dX12_endTrick_183 rfl (lv_at hl 6 rfl) ?_
        refine mg_0 C hs hP ha0 hk0 wf_X12_8 dX12_endTrick_184 ?_
        refine lv_iload_n hx hb dX12_endTrick_187 rfl (lv_at hl 7 rfl) ?_
        refine lv_bipush (v := 20) hx hb dX12_endTrick_188 (by decide) ?_
        refine lv_iadd hx hb dX12_endTrick_190 ?_
        refine lv_topi (fun x_114 ex_114 => ?_)
        refine lv_dup2_11 hx hb dX12_endTrick_191 rfl rfl ?_
        have hi_hr_115 : zEq x_114.toInt (x1.toInt + 20) := by
          obtain ⟨f_114, l_114, u_114⟩ := z_add ex_114 rfl ti_20
          try replace f_114 : x_114.toInt = x1.toInt + 20 := by omega
          clear l_114 u_114
          show x_114.toInt = (x1.toInt + 20)
          omega
        have hl_hr_115 : (20 : Int) ≤ 20 ∧ 20 ≤ (20 : Int) := by decide
        have hid_hr_115 : (x1.toInt + 20) = x1.toInt + (20) := by simp only [Int.add_assoc, Int.add_sub_assoc]
        have hr_115 := z_cell (lo := 20) (hi := 21) hp0 hi_hr_115 hid_hr_115 hl_hr_115 (by decide)
        replace hid_hr_115 : zEq (x1.toInt + 20) (x1.toInt + (20)) := hid_hr_115
        have hin_116 : vp_in x_114 (zn K (zr K a0 0)) := vp_in_iff.mpr (by rw [(hf_10.2.2 (by decide))]; exact hr_115.in)
        refine mld_40 C hs hP hf_10.1 hf_10.2.1 hin_116 dX12_endTrick_192 ?_
        have ep_117 : x_114.toNatClampNeg = (x1.toInt + 20).toNat := z_posE hi_hr_115
        rw [ep_117]
        obtain ⟨f_114, l_114, u_114⟩ := z_add ex_114 rfl ti_20
        try replace f_114 : x_114.toInt = x1.toInt + 20 := by omega
        clear l_114 u_114
        obtain ⟨f_109, l_109, u_109⟩ := z_add ex_109 rfl ti_26
        try replace f_109 : x_109.toInt = x1.toInt + 26 := by omega
        clear l_109 u_109
        have hn_118 : (x1.toInt + 20).toNat ≠ (x1.toInt + 26).toNat := by omega
        have ev_119 : A_112 40 (x1.toInt + 20).toNat = A_79 40 (x1.toInt + 20).toNat := by rw [hE_112, va_up_self, pk_un hn_118]
        have tv_120 := rv_20 hT hr_115
        rw [ep_117] at tv_120
        rw [ev_119] at tv_120
        rw [ev_119]
        refine lv_iconst (v := 1) hx hb dX12_endTrick_193 (by decide) ?_
        refine lv_iadd hx hb dX12_endTrick_194 ?_
        refine lv_topi (fun x_121 ex_121 => ?_)
        have hin_122 : vp_in x_114 (zn K (zr K a0 0)) := vp_in_iff.mpr (by rw [(hf_10.2.2 (by decide))]; exact hr_115.in)
        have g_124 := z_rng (A_79 40 (x1.toInt + 20).toNat)
        obtain ⟨f_121, l_121, u_121⟩ := z_add ex_121 rfl ti_1
        try replace f_121 : x_121.toInt = (A_79 40 (x1.toInt + 20).toNat).toInt + 1 := by omega
        clear l_121 u_121
        refine mst_40 C hM hs hP hS hf_10.1 hT hf_10.2.1 hin_122 (tp_20 hr_115 (show 0 ≤ x_121.toInt ∧ x_121.toInt ≤ 60 from by omega)) dX12_endTrick_195 (fun A_123 H locs hE_123 hT hP hS => ?_)
        have ep_125 : x_114.toNatClampNeg = (x1.toInt + 20).toNat := z_posE hi_hr_115
        rw [ep_125] at hE_123
        have FA := frA FA (frAu hE_123) (by decide)
        have FC := fC.tr FC (fC.st (b := x1.toInt) (lo := 20) (hi := 20) hE_123 hb0.1 (by decide) hid_hr_115 hl_hr_115) (by decide)
        have WZ := wz.st WZ hE_123 (Or.inr (by omega))
        refine lv_aload_n hx hb dX12_endTrick_196 rfl (lv_at hl 6 rfl) ?_
        refine mg_0 C hs hP ha0 hk0 wf_X12_8 dX12_endTrick_197 ?_
        refine lv_iload_n hx hb dX12_endTrick_200 rfl (lv_at hl 7 rfl) ?_
        refine lv_bipush (v := 19) hx hb dX12_endTrick_201 (by decide) ?_
        refine lv_iadd hx hb dX12_endTrick_203 ?_
        refine lv_topi (fun x_126 ex_126 => ?_)
        refine lv_iload hx hb dX12_endTrick_204 (lv_at hl 4 rfl) ?_
        have hi_hr_127 : zEq x_126.toInt (x1.toInt + 19) := by
          obtain ⟨f_126, l_126, u_126⟩ := z_add ex_126 rfl ti_19
          try replace f_126 : x_126.toInt = x1.toInt + 19 := by omega
          clear l_126 u_126
          show x_126.toInt = (x1.toInt + 19)
          omega
        have hl_hr_127 : (19 : Int) ≤ 19 ∧ 19 ≤ (19 : Int) := by decide
        have hid_hr_127 : (x1.toInt + 19) = x1.toInt + (19) := by simp only [Int.add_assoc, Int.add_sub_assoc]
        have hr_127 := z_cell (lo := 10) (hi := 19) hp0 hi_hr_127 hid_hr_127 hl_hr_127 (by decide)
        replace hid_hr_127 : zEq (x1.toInt + 19) (x1.toInt + (19)) := hid_hr_127
        have hin_128 : vp_in x_126 (zn K (zr K a0 0)) := vp_in_iff.mpr (by rw [(hf_10.2.2 (by decide))]; exact hr_127.in)
        refine mst_40 C hM hs hP hS hf_10.1 hT hf_10.2.1 hin_128 (tp_10 hr_127) dX12_endTrick_206 (fun A_129 H locs hE_129 hT hP hS => ?_)
        have ep_130 : x_126.toNatClampNeg = (x1.toInt + 19).toNat := z_posE hi_hr_127
        rw [ep_130] at hE_129
        have FA := frA FA (frAu hE_129) (by decide)
        have FC := fC.tr FC (fC.st (b := x1.toInt) (lo := 19) (hi := 19) hE_129 hb0.1 (by decide) hid_hr_127 hl_hr_127) (by decide)
        have WZ := wz.st WZ hE_129 (Or.inr (by omega))
        refine lv_aload_n hx hb dX12_endTrick_207 rfl (lv_at hl 6 rfl) ?_
        refine mg_0 C hs hP ha0 hk0 wf_X12_8 dX12_endTrick_208 ?_
        refine lv_iload_n hx hb dX12_endTrick_211 rfl (lv_at hl 7 rfl) ?_
        refine lv_bipush (v := 9) hx hb dX12_endTrick_212 (by decide) ?_
        refine lv_iadd hx hb dX12_endTrick_214 ?_
        refine lv_topi (fun x_131 ex_131 => ?_)
        refine lv_aload_n hx hb dX12_endTrick_215 rfl (lv_at hl 6 rfl) ?_
        refine lv_iload_n hx hb dX12_endTrick_216 rfl (lv_at hl 7 rfl) ?_
        refine lv_iload hx hb dX12_endTrick_217 (lv_at hl 4 rfl) ?_
        have hq_132 : 0 ≤ (A 40 (x1.toInt + x_7.toInt + 31).toNat).toInt ∧ (A 40 (x1.toInt + x_7.toInt + 31).toNat).toInt ≤ 4 := by (first | assumption | omega | (intros; omega))
        refine zcS (zrV (As := [.int x1, .int (A 40 (x1.toInt + x_7.toInt + 31).toNat)]) (b := a0) (rest := [.int x_131, .ref (zr K a0 0)]) C hs hP hS (c_X12_seatFrom l D K hM f_24 A_129 hT a0 ha0 hk0 x1 (A 40 (x1.toInt + x_7.toInt + 31).toNat) hp0 hq_132) m_X12_seatFrom wm_X12_162 (zrecv hs hP ha0 (zF_11 hk0) rfl) ⟨by decide, by decide⟩ hl.1 (Nat.le_of_ble_eq_true rfl) dX12_endTrick_219) (fun x_133 p_133 => ?_)
        have pp_133 : (x_133.toInt = -1 ∨ (0 ≤ x_133.toInt ∧ x_133.toInt ≤ 3 ∧ 1 ≤ (A_129 40 (x1.toInt + x_133.toInt + 22).toNat).toInt ∧ nL (A_129 40) x1.toInt x_133.toInt (A_129 40 (x1.toInt + 26).toNat).toInt)) := p_133
        have tRs := hT.row hp0
        have FCs := FC
        have WZs := WZ
        have fq_134 : fC (A 40) (A_129 40) x1.toInt ([(15, 20), (26, 26), (110, 169), (470, 649)] : List (Int × Int)) := fun j hj hh => by
          have h9 := hh
          simp only [List.mem_cons, List.not_mem_nil, or_false, forall_eq_or_imp, forall_eq] at h9
          rw [hE_129, va_up_self, pk_un (show j.toNat ≠ (x1.toInt + 19).toNat by omega)]
          rw [hE_123, va_up_self, pk_un (show j.toNat ≠ (x1.toInt + 20).toNat by omega)]
          rw [hE_112, va_up_self, pk_un (show j.toNat ≠ (x1.toInt + 26).toNat by omega)]
          exact (fC.tr fC.rf iv_79_1 (by decide)) j hj hh
        obtain ⟨f_126, l_126, u_126⟩ := z_add ex_126 rfl ti_19
        try replace f_126 : x_126.toInt = x1.toInt + 19 := by omega
        clear l_126 u_126
        have es_135 : A_129 40 (x1.toInt + 26).toNat = (0 : Int32) := by rw [hE_129, va_up_self, pk_un (show (x1.toInt + 26).toNat ≠ (x1.toInt + 19).toNat by omega), hE_123, va_up_self, pk_un (show (x1.toInt + 26).toNat ≠ (x1.toInt + 20).toNat by omega), hE_112, va_up_self, pk_us]
        have es_136 : A_129 40 (x1.toInt + 20).toNat = x_121 := by rw [hE_129, va_up_self, pk_un (show (x1.toInt + 20).toNat ≠ (x1.toInt + 19).toNat by omega), hE_123, va_up_self, pk_us]
        have rKs := hp1.2.2.fw hb0.1 FC WZ tR0.p1.2 tR0.p21.2 (by decide) (by decide) (by decide)
        have rPs := rowP.et (C1 := A_129 40) hp1 hp2 (fun q q0 q1 => by unfold hd; rw [fq_134.ar hb0.1 (lo := 22) (hi := 25) (by decide) (x1.toInt + q + 22) (by decide) (by omega) (by omega)]) (by rw [fq_134.ar hb0.1 (lo := 21) (hi := 21) (by decide) (x1.toInt + 21) (by decide) (by omega) (by omega)]) (by rw [es_136]; omega) (by rw [es_135, ti_0]) (by rw [fq_134.ar hb0.1 (lo := 43) (hi := 43) (by decide) (x1.toInt + 43) (by decide) (by omega) (by omega)]) rKs
        have hi_hr_137 : zEq x_131.toInt (x1.toInt + 9) := by
          obtain ⟨f_131, l_131, u_131⟩ := z_add ex_131 rfl ti_9
          try replace f_131 : x_131.toInt = x1.toInt + 9 := by omega
          clear l_131 u_131
          show x_131.toInt = (x1.toInt + 9)
          omega
        have hl_hr_137 : (9 : Int) ≤ 9 ∧ 9 ≤ (9 : Int) := by decide
        have hid_hr_137 : (x1.toInt + 9) = x1.toInt + (9) := by simp only [Int.add_assoc, Int.add_sub_assoc]
        have hr_137 := z_cell (lo := 9) (hi := 9) hp0 hi_hr_137 hid_hr_137 hl_hr_137 (by decide)
        replace hid_hr_137 : zEq (x1.toInt + 9) (x1.toInt + (9)) := hid_hr_137
        have hin_138 : vp_in x_131 (zn K (zr K a0 0)) := vp_in_iff.mpr (by rw [(hf_10.2.2 (by decide))]; exact hr_137.in)
        have g_140 := z_rng x_133
        refine mst_40 C hM hs hP hS hf_10.1 hT hf_10.2.1 hin_138 (tp_9 hr_137 (show -1 ≤ x_133.toInt ∧ x_133.toInt ≤ 3 from by omega)) dX12_endTrick_222 (fun A_139 H locs hE_139 hT hP hS => ?_)
        have ep_141 : x_131.toNatClampNeg = (x1.toInt + 9).toNat := z_posE hi_hr_137
        rw [ep_141] at hE_139
        have FA := frA FA (frAu hE_139) (by decide)
        have FC := fC.tr FC (fC.st (b := x1.toInt) (lo := 9) (hi := 9) hE_139 hb0.1 (by decide) hid_hr_137 hl_hr_137) (by decide)
        have WZ := wz.st WZ hE_139 (Or.inr (by omega))
        have hRN := rowN.nx rPs tRs hb0.1 hE_139 pp_133
        refine lv_aload_n hx hb dX12_endTrick_223 rfl (lv_at hl 6 rfl) ?_
        refine mg_0 C hs hP ha0 hk0 wf_X12_8 dX12_endTrick_224 ?_
        refine lv_iload_n hx hb dX12_endTrick_227 rfl (lv_at hl 7 rfl) ?_
        refine lv_bipush (v := 9) hx hb dX12_endTrick_228 (by decide) ?_
        refine lv_iadd hx hb dX12_endTrick_230 ?_
        refine lv_topi (fun x_142 ex_142 => ?_)
        have hi_hr_143 : zEq x_142.toInt (x1.toInt + 9) := by
          obtain ⟨f_142, l_142, u_142⟩ := z_add ex_142 rfl ti_9
          try replace f_142 : x_142.toInt = x1.toInt + 9 := by omega
          clear l_142 u_142
          show x_142.toInt = (x1.toInt + 9)
          omega
        have hl_hr_143 : (9 : Int) ≤ 9 ∧ 9 ≤ (9 : Int) := by decide
        have hid_hr_143 : (x1.toInt + 9) = x1.toInt + (9) := by simp only [Int.add_assoc, Int.add_sub_assoc]
        have hr_143 := z_cell (lo := 9) (hi := 9) hp0 hi_hr_143 hid_hr_143 hl_hr_143 (by decide)
        replace hid_hr_143 : zEq (x1.toInt + 9) (x1.toInt + (9)) := hid_hr_143
        have hin_144 : vp_in x_142 (zn K (zr K a0 0)) := vp_in_iff.mpr (by rw [(hf_10.2.2 (by decide))]; exact hr_143.in)
        refine mld_40 C hs hP hf_10.1 hf_10.2.1 hin_144 dX12_endTrick_231 ?_
        have ep_145 : x_142.toNatClampNeg = (x1.toInt + 9).toNat := z_posE hi_hr_143
        rw [ep_145]
        have ev_146 : A_139 40 (x1.toInt + 9).toNat = x_133 := by rw [hE_139, va_up_self, pk_us]
        have tv_147 := rv_9 hT hr_143
        rw [ep_145] at tv_147
        rw [ev_146] at tv_147
        rw [ev_146]
        refine lv_iconst (v := (-1)) hx hb dX12_endTrick_232 (by decide) ?_
        refine bi_ne (tgt := 242) hx hb rfl ti_m1 dX12_endTrick_233 (by decide) (fun c_148 => ?_) (fun c_148 => ?_)
        · skip
          have ev_149 : f_24 9 = f 9 := by rw [hF_24 9 (by decide), hF_7 9 (by decide), hF_3 9 (by decide)]
          exact maV hQ hx hb hr hlk hP hS ⟨hT, FA, FF, FC, WZ, ⟨by rw [ev_149] <;> omega, by rw [ev_149] <;> omega, by omega, by omega, fun h9 => by omega, hRN⟩⟩ dX12_endTrick_242
        · skip
          refine lv_aload_n hx hb dX12_endTrick_236 rfl (lv_at hl 6 rfl) ?_
          refine lv_iload_n hx hb dX12_endTrick_237 rfl (lv_at hl 7 rfl) ?_
          refine lv_iload_n hx hb dX12_endTrick_238 rfl (lv_at hl 8 rfl) ?_
          have g_150 := z_rng x2
          have hq_151 : (f_24 11).toInt ≤ 1970000000 := by (first | assumption | omega | (intros; omega))
          have ev_153 : f_24 9 = f 9 := by rw [hF_24 9 (by decide), hF_7 9 (by decide), hF_3 9 (by decide)]
          have hq_152 : (f_24 9).toInt ≤ 1970000000 := by rw [ev_153] <;> (first | assumption | omega | (intros; omega))
          refine mcV (zrV (As := [.int x1, .int x2]) (b := a0) (rest := []) C hs hP hS (c_X12_endDeal l D K hM f_24 A_139 hT a0 ha0 hk0 x1 x2 hp0 hq_151 hq_152) m_X12_endDeal wm_X12_226 (zrecv hs hP ha0 (zF_11 hk0) rfl) ⟨by decide, by decide⟩ hl.1 (Nat.le_of_ble_eq_true rfl) dX12_endTrick_239) hS (fun f_154 A_154 H locs p_154 hP hS => ?_)
          obtain ⟨hT, hA_154, hF_154, hC_154, pp_154⟩ := p_154
          have pp_154 : (f_24 9).toInt ≤ (f_154 9).toInt ∧ (f_154 9).toInt ≤ (f_24 9).toInt + 2 ∧ (f_24 11).toInt ≤ (f_154 11).toInt ∧ (f_154 11).toInt ≤ (f_24 11).toInt + 6 ∧ ((f_24 12).toInt ≠ 0 → (f_154 11).toInt = (f_24 11).toInt) ∧ (rowP (A_139 40) x1.toInt → rowN (A_154 40) x1.toInt) := pp_154
          have pp0_154 := pp_154
          have ev_155 : f_24 12 = f 12 := by rw [hF_24 12 (by decide), hF_7 12 (by decide), hF_3 12 (by decide)]
          have ev_156 : f_24 9 = f 9 := by rw [hF_24 9 (by decide), hF_7 9 (by decide), hF_3 9 (by decide)]
          rw [ev_155, ev_156] at pp_154
          have FA := frA FA hA_154 (by decide)
          have FF := frF FF hF_154 (by decide)
          have FC := fC.tr FC hC_154 (by decide)
          have WZ := wz.fC WZ hC_154 (by omega) (by decide)
          have hRN := pp0_154.2.2.2.2.2 hRN.1
          exact maV hQ hx hb hr hlk hP hS ⟨hT, FA, FF, FC, WZ, ⟨by omega, by omega, by omega, by omega, fun h9 => by omega, hRN⟩⟩ dX12_endTrick_242
      · skip
        refine lv_aload_n hx hb dX12_endTrick_125 rfl (lv_at hl 6 rfl) ?_
        refine mg_0 C hs hP ha0 hk0 wf_X12_8 dX12_endTrick_126 ?_
        refine lv_iload_n hx hb dX12_endTrick_129 rfl (lv_at hl 7 rfl) ?_
        refine lv_bipush (v := 110) hx hb dX12_endTrick_130 (by decide) ?_
        refine lv_iadd hx hb dX12_endTrick_132 ?_
        refine lv_topi (fun x_157 ex_157 => ?_)
        refine lv_aload_n hx hb dX12_endTrick_133 rfl (lv_at hl 6 rfl) ?_
        refine mg_15 C hs hP ha0 hk0 wf_X12_39 dX12_endTrick_134 ?_
        have hf_158 := hO.r (j := 15) ha0 hk0 (rfl : zX 11 15 = some (55, 4))
        refine lv_iload hx hb dX12_endTrick_137 (lv_at hl 0 rfl) ?_
        have g_160 := z_rng y_77
        have hin_159 : vp_in y_77 (zn K (zr K a0 15)) := vp_in_iff.mpr (by rw [(hf_158.2.2 (by decide))]; refine ⟨?_, ?_⟩ <;> omega)
        refine mld_55 C hs hP hf_158.1 hf_158.2.1 hin_159 dX12_endTrick_139 ?_
        have tv_161 := ra_55 hT (vp_in_iff.mp hin_159).1 (by have h7 := (vp_in_iff.mp hin_159).2; rw [(hf_158.2.2 (by decide))] at h7; exact h7)
        refine lv_iadd hx hb dX12_endTrick_140 ?_
        refine lv_topi (fun x_162 ex_162 => ?_)
        refine lv_bipush (v := 6) hx hb dX12_endTrick_141 (by decide) ?_
        refine lv_iload hx hb dX12_endTrick_143 (lv_at hl 3 rfl) ?_
        refine lv_iadd hx hb dX12_endTrick_145 ?_
        refine lv_topi (fun x_163 ex_163 => ?_)
        have hi_hr_164 : zEq x_162.toInt (x1.toInt + (A_79 55 y_77.toNatClampNeg).toInt + 110) := by
          obtain ⟨f_157, l_157, u_157⟩ := z_add ex_157 rfl ti_110
          try replace f_157 : x_157.toInt = x1.toInt + 110 := by omega
          clear l_157 u_157
          have g_165 := z_rng (A_79 55 y_77.toNatClampNeg)
          obtain ⟨f_162, l_162, u_162⟩ := z_add ex_162 rfl rfl
          try replace f_162 : x_162.toInt = x_157.toInt + (A_79 55 y_77.toNatClampNeg).toInt := by omega
          clear l_162 u_162
          show x_162.toInt = (x1.toInt + (A_79 55 y_77.toNatClampNeg).toInt + 110)
          omega
        have hl_hr_164 : 110 ≤ (A_79 55 y_77.toNatClampNeg).toInt + 110 ∧ (A_79 55 y_77.toNatClampNeg).toInt + 110 ≤ 169 := by
          have g_166 := z_rng (A_79 55 y_77.toNatClampNeg)
          omega
        have hid_hr_164 : (x1.toInt + (A_79 55 y_77.toNatClampNeg).toInt + 110) = x1.toInt + ((A_79 55 y_77.toNatClampNeg).toInt + 110) := by simp only [Int.add_assoc, Int.add_sub_assoc]
        have hr_164 := z_cell (lo := 45) (hi := 169) hp0 hi_hr_164 hid_hr_164 hl_hr_164 (by decide)
        replace hid_hr_164 : zEq (x1.toInt + (A_79 55 y_77.toNatClampNeg).toInt + 110) (x1.toInt + ((A_79 55 y_77.toNatClampNeg).toInt + 110)) := hid_hr_164
        have hin_167 : vp_in x_162 (zn K (zr K a0 0)) := vp_in_iff.mpr (by rw [(hf_10.2.2 (by decide))]; exact hr_164.in)
        refine mst_40 C hM hs hP hS hf_10.1 hT hf_10.2.1 hin_167 (tp_45 hr_164) dX12_endTrick_146 (fun A_168 H locs hE_168 hT hP hS => ?_)
        have ep_169 : x_162.toNatClampNeg = (x1.toInt + (A_79 55 y_77.toNatClampNeg).toInt + 110).toNat := z_posE hi_hr_164
        rw [ep_169] at hE_168
        have FA := frA FA (frAu hE_168) (by decide)
        have FC := fC.tr FC (fC.st (b := x1.toInt) (lo := 110) (hi := 169) hE_168 hb0.1 (by decide) hid_hr_164 hl_hr_164) (by decide)
        obtain ⟨f_163, l_163, u_163⟩ := z_add ex_163 ti_6 rfl
        try replace f_163 : x_163.toInt = 6 + x_20.toInt := by omega
        clear l_163 u_163
        have WZ := wz.st WZ hE_168 (Or.inl (by omega))
        refine lv_aload_n hx hb dX12_endTrick_147 rfl (lv_at hl 6 rfl) ?_
        refine mg_0 C hs hP ha0 hk0 wf_X12_8 dX12_endTrick_148 ?_
        refine lv_iload_n hx hb dX12_endTrick_151 rfl (lv_at hl 7 rfl) ?_
        refine lv_sipush (v := 470) hx hb dX12_endTrick_152 (by decide) ?_
        refine lv_iadd hx hb dX12_endTrick_155 ?_
        refine lv_topi (fun x_170 ex_170 => ?_)
        refine lv_aload_n hx hb dX12_endTrick_156 rfl (lv_at hl 6 rfl) ?_
        refine mg_15 C hs hP ha0 hk0 wf_X12_39 dX12_endTrick_157 ?_
        refine lv_iload hx hb dX12_endTrick_160 (lv_at hl 0 rfl) ?_
        have hin_171 : vp_in y_77 (zn K (zr K a0 15)) := vp_in_iff.mpr (by rw [(hf_158.2.2 (by decide))]; refine ⟨?_, ?_⟩ <;> omega)
        refine mld_55 C hs hP hf_158.1 hf_158.2.1 hin_171 dX12_endTrick_162 ?_
        have ev_172 : A_168 55 y_77.toNatClampNeg = A_79 55 y_77.toNatClampNeg := by rw [hE_168, va_up_ne _ _ (show 55 ≠ 40 by decide)]
        rw [ev_172]
        refine lv_iadd hx hb dX12_endTrick_163 ?_
        refine lv_topi (fun x_173 ex_173 => ?_)
        refine lv_iload hx hb dX12_endTrick_164 (lv_at hl 1 rfl) ?_
        have hi_hr_174 : zEq x_173.toInt (x1.toInt + (A_79 55 y_77.toNatClampNeg).toInt + 470) := by
          obtain ⟨f_170, l_170, u_170⟩ := z_add ex_170 rfl ti_470
          try replace f_170 : x_170.toInt = x1.toInt + 470 := by omega
          clear l_170 u_170
          have g_175 := z_rng (A_79 55 y_77.toNatClampNeg)
          obtain ⟨f_173, l_173, u_173⟩ := z_add ex_173 rfl rfl
          try replace f_173 : x_173.toInt = x_170.toInt + (A_79 55 y_77.toNatClampNeg).toInt := by omega
          clear l_173 u_173
          show x_173.toInt = (x1.toInt + (A_79 55 y_77.toNatClampNeg).toInt + 470)
          omega
        have hl_hr_174 : 470 ≤ (A_79 55 y_77.toNatClampNeg).toInt + 470 ∧ (A_79 55 y_77.toNatClampNeg).toInt + 470 ≤ 529 := by
          have g_176 := z_rng (A_79 55 y_77.toNatClampNeg)
          omega
        have hid_hr_174 : (x1.toInt + (A_79 55 y_77.toNatClampNeg).toInt + 470) = x1.toInt + ((A_79 55 y_77.toNatClampNeg).toInt + 470) := by simp only [Int.add_assoc, Int.add_sub_assoc]
        have hr_174 := z_cell (lo := 470) (hi := 769) hp0 hi_hr_174 hid_hr_174 hl_hr_174 (by decide)
        replace hid_hr_174 : zEq (x1.toInt + (A_79 55 y_77.toNatClampNeg).toInt + 470) (x1.toInt + ((A_79 55 y_77.toNatClampNeg).toInt + 470)) := hid_hr_174
        have hin_177 : vp_in x_173 (zn K (zr K a0 0)) := vp_in_iff.mpr (by rw [(hf_10.2.2 (by decide))]; exact hr_174.in)
        refine mst_40 C hM hs hP hS hf_10.1 hT hf_10.2.1 hin_177 (tp_470 hr_174) dX12_endTrick_166 (fun A_178 H locs hE_178 hT hP hS => ?_)
        have ep_179 : x_173.toNatClampNeg = (x1.toInt + (A_79 55 y_77.toNatClampNeg).toInt + 470).toNat := z_posE hi_hr_174
        rw [ep_179] at hE_178
        have FA := frA FA (frAu hE_178) (by decide)
        have FC := fC.tr FC (fC.st (b := x1.toInt) (lo := 470) (hi := 529) hE_178 hb0.1 (by decide) hid_hr_174 hl_hr_174) (by decide)
        have WZ := wz.st WZ hE_178 (Or.inr (by omega))
        obtain ⟨x_180, ex_180⟩ : ∃ y : Int32, y = y_77 + 1 := ⟨_, rfl⟩
        refine lv_iinc (v := x_180) (lv' := [(8, .int x_180), (7, .int (A 40 (x1.toInt + 20).toNat)), (6, .int x_24), (5, .int x_20), (4, .int (A 40 (x1.toInt + x_7.toInt + 31).toNat)), (3, .int x_7), (0, .ref a0), (1, .int x1), (2, .int x2)]) hx hb dX12_endTrick_167 hl (k := 0) rfl (by rw [ex_180]; rfl) (by decide) rfl (fun ls hl => ?_)
        refine lv_goto (tgt := 116) hx hb dX12_endTrick_170 (by decide) ?_
        obtain ⟨f_180, l_180, u_180⟩ := z_add ex_180 rfl ti_1
        try replace f_180 : x_180.toInt = y_77.toInt + 1 := by omega
        clear l_180 u_180
        have g_181 := z_rng (f_3 16)
        have fq_182 : fC (A 40) (A_178 40) x1.toInt ([(15, 18), (110, 169), (470, 649)] : List (Int × Int)) := fun j hj hh => by
          have h9 := hh
          simp only [List.mem_cons, List.not_mem_nil, or_false, forall_eq_or_imp, forall_eq] at h9
          rw [hE_178, va_up_self, pk_un (show j.toNat ≠ (x1.toInt + (A_79 55 y_77.toNatClampNeg).toInt + 470).toNat by omega)]
          rw [hE_168, va_up_self, pk_un (show j.toNat ≠ (x1.toInt + (A_79 55 y_77.toNatClampNeg).toInt + 110).toNat by omega)]
          exact iv_79_1 j hj hh
        exact ih_78 A_178 _ _ x_180 _ (by omega) (by omega) fq_182 FA FC WZ hT hP hS (lv_sub hl [0, 1, 2, 3, 4, 5, 6, 7, 8] rfl)
  have fq_183 : fC (A 40) (A_75 40) x1.toInt ([(15, 18), (110, 169), (470, 649)] : List (Int × Int)) := fun j hj hh => by
    have h9 := hh
    simp only [List.mem_cons, List.not_mem_nil, or_false, forall_eq_or_imp, forall_eq] at h9
    rw [hE_75, va_up_self, pk_un (show j.toNat ≠ (x1.toInt + x_20.toInt + 17).toNat by omega)]
    rw [hE_62, va_up_self, pk_un (show j.toNat ≠ (x1.toInt + x_20.toInt + 15).toNat by omega)]
    rw [hE_46, va_up_self, pk_un (show j.toNat ≠ (x1.toInt + (A 40 (x1.toInt + 20).toNat).toInt + 590).toNat by omega)]
    rw [hE_38, va_up_self, pk_un (show j.toNat ≠ (x1.toInt + (A 40 (x1.toInt + 20).toNat).toInt + 530).toNat by omega)]
    rw [hA_24 40 (by decide)]
    rw [hA_7 40 (by decide)]
    rw [hA_3 40 (by decide)]
  exact L_116_78 _ A_75 _ _ 0 _ (Nat.lt_succ_self _) (by (try simp only [ti_0]); omega) fq_183 FA FC WZ hT hP hS (lv_sub hl [0, 1, 2, 3, 4, 5, 6, 7, 8] rfl)
