set_option maxHeartbeats 4000000 in
set_option maxRecDepth 100000 in
theorem c_X12_endTrick (l : Launch) (D : va_G) (K : zK) (hM : mK K) (f : Nat → Int32) (A : Nat → Nat → Int32) (hT : mT f A) (a0 : Nat) (ha0 : a0 ∈ zl K) (hk0 : zk K a0 = 11) (x1 : Int32) (x2 : Int32) (hp0 : zRow x1.toInt) (hp1 : rowP (A 40) x1.toInt) (hp2 : 1 ≤ (A 40 (x1.toInt + 26).toNat).toInt) (hp3 : (f 11).toInt ≤ 1960000000) (hp4 : (f 9).toInt ≤ 1960000000) : Met l yX12_endTrick (zc yX12_endTrick cX12_endTrick 9 none) (rmd 4) (va_Pc [.ref a0, .int x1, .int x2] (zB D K (mV K f A))) (mQv D K (fun f' A' => mT f' A' ∧ (∀ k, k ∉ ([40, 48, 50, 53, 55] : List Nat) → A' k = A k) ∧ (∀ k, k ∉ ([9, 11, 14, 16] : List Nat) → f' k = f k) ∧ fC (A 40) (A' 40) x1.toInt ([(5, 5), (9, 9), (15, 18), (19, 19), (20, 20), (26, 26), (39, 42), (110, 169), (470, 529), (530, 589), (590, 649)] : List (Int × Int)) ∧ wz (A 40) (A' 40) x1.toInt ∧ (f 9).toInt ≤ (f' 9).toInt ∧ (f' 9).toInt ≤ (f 9).toInt + 2 ∧ (f 11).toInt ≤ (f' 11).toInt ∧ (f' 11).toInt ≤ (f 11).toInt + 13 ∧ ((f 12).toInt ≠ 0 → (f' 11).toInt = (f 11).toInt) ∧ rowN (A' 40) x1.toInt)) 0 0 (zA K) := by
  refine zin (by decide) (Nat.le_of_ble_eq_true rfl) ?_
  intro p e s m args below meth c ls Q hQ C hr hlk hP hs hl
  have C : CallFix p m c cX12_endTrick 9 s args zw RX12 := C
  obtain ⟨hx, hb, hml, hown, hts⟩ := id C
  have hO := hM.1
  have hS : va_S (zA K) s.heap s.heap [] := va_S.rf
  have FA : ∀ k, k ∉ ([40, 48, 50, 53, 55] : List Nat) → A k = A k := fun _ _ => rfl
  have FF : ∀ k, k ∉ ([9, 11, 14, 16] : List Nat) → f k = f k := fun _ _ => rfl
  have FC : fC (A 40) (A 40) x1.toInt ([(5, 5), (9, 9), (15, 18), (19, 19), (20, 20), (26, 26), (39, 42), (110, 169), (470, 529), (530, 589), (590, 649)] : List (Int × Int)) := fun _ _ _ => rfl
  have WZ : wz (A 40) (A 40) x1.toInt := wz.rf
  have hl : lv_has ls 9 [(0, .ref a0), (1, .int x1), (2, .int x2)] := hl
  have hb0 := hp0.lin
  have tR0 := hT.row hp0
  have hSn := hS_nn (A 40) x1.toInt
  have t21 := tR0.p21
  have t26 := tR0.p26
  have t20 := tR0.p20
  have t43 := tR0.p43
  have hrs := hp1.1
  unfold rS at hrs
  refine lv_aload_n hx hb dX12_endTrick_0 rfl (lv_at hl 0 rfl) ?_
  refine lv_iload_n hx hb dX12_endTrick_1 rfl (lv_at hl 1 rfl) ?_
  refine lv_iconst (v := 0) hx hb dX12_endTrick_2 (by decide) ?_
  have g_1 := z_rng x1
  have hq_2 : 0 ≤ (0 : Int32).toInt ∧ (0 : Int32).toInt ≤ 3 := by ((try simp only [ti_0]); first | assumption | omega | (intros; omega))
  refine mcV (zrV (As := [.int x1, .int 0]) (b := a0) (rest := []) C hs hP hS (c_X12_look l D K hM f A hT a0 ha0 hk0 x1 0 hp0 hq_2) m_X12_look wm_X12_205 (zrecv hs hP ha0 (zF_11 hk0) rfl) ⟨by decide, by decide⟩ hl.1 (Nat.le_of_ble_eq_true rfl) dX12_endTrick_3) hS (fun f_3 A_3 H locs p_3 hP hS => ?_)
  obtain ⟨hT, hA_3, hF_3, pp_3⟩ := p_3
  have pp_3 : (f_3 16).toInt = (A 40 (x1.toInt + 26).toNat).toInt := pp_3
  have pp0_3 := zHid.mk pp_3
  try simp only [ti_0] at pp_3
  have FA := frA FA hA_3 (by decide)
  have FF := frF FF hF_3 (by decide)
  have FC := fC.eq FC (hA_3 40 (by decide))
  have WZ := wz.eq WZ (hA_3 40 (by decide))
  refine lv_aload_n hx hb dX12_endTrick_6 rfl (lv_at hl 0 rfl) ?_
  refine lv_iload_n hx hb dX12_endTrick_7 rfl (lv_at hl 1 rfl) ?_
  have hq_4 : 1 ≤ (f_3 16).toInt := by (first | assumption | omega | (intros; omega))
  have ev_6 : f_3 11 = f 11 := by rw [hF_3 11 (by decide)]
  have hq_5 : (f_3 11).toInt ≤ 1980000000 := by rw [ev_6] <;> (first | assumption | omega | (intros; omega))
  refine mcI (zrV (As := [.int x1]) (b := a0) (rest := []) C hs hP hS (c_X12_wins l D K hM f_3 A_3 hT a0 ha0 hk0 x1 hp0 hq_4 hq_5) m_X12_wins wm_X12_220 (zrecv hs hP ha0 (zF_11 hk0) rfl) ⟨by decide, by decide⟩ hl.1 (Nat.le_of_ble_eq_true rfl) dX12_endTrick_8) hS (fun x_7 f_7 A_7 H locs p_7 hP hS => ?_)
  obtain ⟨hT, hA_7, hF_7, pp_7⟩ := p_7
  have pp_7 : (f_3 11).toInt ≤ (f_7 11).toInt ∧ (f_7 11).toInt ≤ (f_3 11).toInt + 3 ∧ ((f_3 12).toInt ≠ 0 → (f_7 11).toInt = (f_3 11).toInt) ∧ 0 ≤ x_7.toInt ∧ x_7.toInt < (f_3 16).toInt := pp_7
  have pp0_7 := zHid.mk pp_7
  have ev_8 : f_3 11 = f 11 := by rw [hF_3 11 (by decide)]
  have ev_9 : f_3 12 = f 12 := by rw [hF_3 12 (by decide)]
  rw [ev_8, ev_9] at pp_7
  have pa_7 := pp_7.1
  have pb_7 := pp_7.2.1
  have qq_7 := zHid.mk pp_7.2.2.1
  replace pp_7 := pp_7.2.2.2
  have FA := frA FA hA_7 (by decide)
  have FF := frF FF hF_7 (by decide)
  have FC := fC.eq FC (hA_7 40 (by decide))
  have WZ := wz.eq WZ (hA_7 40 (by decide))
  refine lv_istore_n (lv' := [(3, .int x_7), (0, .ref a0), (1, .int x1), (2, .int x2)]) hx hb dX12_endTrick_11 rfl hl (by decide) rfl (fun ls hl => ?_)
  refine lv_aload_n hx hb dX12_endTrick_12 rfl (lv_at hl 1 rfl) ?_
  refine mg_0 C hs hP ha0 hk0 wf_X12_8 dX12_endTrick_13 ?_
  have hf_10 := hO.r (j := 0) ha0 hk0 (rfl : zX 11 0 = some (40, 47730))
  refine lv_iload_n hx hb dX12_endTrick_16 rfl (lv_at hl 2 rfl) ?_
  refine lv_bipush (v := 31) hx hb dX12_endTrick_17 (by decide) ?_
  refine lv_iadd hx hb dX12_endTrick_19 ?_
  refine lv_topi (fun x_11 ex_11 => ?_)
  refine lv_iload_n hx hb dX12_endTrick_20 rfl (lv_at hl 0 rfl) ?_
  refine lv_iadd hx hb dX12_endTrick_21 ?_
  refine lv_topi (fun x_12 ex_12 => ?_)
  have hi_hr_13 : zEq x_12.toInt (x1.toInt + x_7.toInt + 31) := by
    obtain ⟨f_11, l_11, u_11⟩ := z_add ex_11 rfl ti_31
    try replace f_11 : x_11.toInt = x1.toInt + 31 := by omega
    clear l_11 u_11
    have g_14 := z_rng x_7
    obtain ⟨f_12, l_12, u_12⟩ := z_add ex_12 rfl rfl
    try replace f_12 : x_12.toInt = x_11.toInt + x_7.toInt := by omega
    clear l_12 u_12
    show x_12.toInt = (x1.toInt + x_7.toInt + 31)
    omega
  have hl_hr_13 : 31 ≤ x_7.toInt + 31 ∧ x_7.toInt + 31 ≤ 34 := by
    have g_15 := z_rng x_7
    omega
  have hid_hr_13 : (x1.toInt + x_7.toInt + 31) = x1.toInt + (x_7.toInt + 31) := by simp only [Int.add_assoc, Int.add_sub_assoc]
  have hr_13 := z_cell (lo := 31) (hi := 34) hp0 hi_hr_13 hid_hr_13 hl_hr_13 (by decide)
  replace hid_hr_13 : zEq (x1.toInt + x_7.toInt + 31) (x1.toInt + (x_7.toInt + 31)) := hid_hr_13
  have hin_16 : vp_in x_12 (zn K (zr K a0 0)) := vp_in_iff.mpr (by rw [(hf_10.2.2 (by decide))]; exact hr_13.in)
  refine mld_40 C hs hP hf_10.1 hf_10.2.1 hin_16 dX12_endTrick_22 ?_
  have ep_17 : x_12.toNatClampNeg = (x1.toInt + x_7.toInt + 31).toNat := z_posE hi_hr_13
  rw [ep_17]
  have ev_18 : A_7 40 (x1.toInt + x_7.toInt + 31).toNat = A 40 (x1.toInt + x_7.toInt + 31).toNat := by rw [hA_7 40 (by decide), hA_3 40 (by decide)]
  have tv_19 := rv_31 hT hr_13
  rw [ep_17] at tv_19
  rw [ev_18] at tv_19
  rw [ev_18]
  clear ep_17
  refine lv_istore (lv' := [(4, .int (A 40 (x1.toInt + x_7.toInt + 31).toNat)), (3, .int x_7), (0, .ref a0), (1, .int x1), (2, .int x2)]) hx hb dX12_endTrick_23 hl (by decide) rfl (fun ls hl => ?_)
  refine lv_iload hx hb dX12_endTrick_25 (lv_at hl 0 rfl) ?_
  refine lv_iconst (v := 2) hx hb dX12_endTrick_27 (by decide) ?_
  refine lv_irem hx hb dX12_endTrick_28 (by decide) ?_
  refine lv_topi (fun x_20 ex_20 => ?_)
  refine lv_istore (lv' := [(5, .int x_20), (4, .int (A 40 (x1.toInt + x_7.toInt + 31).toNat)), (3, .int x_7), (0, .ref a0), (1, .int x1), (2, .int x2)]) hx hb dX12_endTrick_29 hl (by decide) rfl (fun ls hl => ?_)
  refine lv_aload_n hx hb dX12_endTrick_31 rfl (lv_at hl 3 rfl) ?_
  refine lv_iload_n hx hb dX12_endTrick_32 rfl (lv_at hl 4 rfl) ?_
  refine lv_iload_n hx hb dX12_endTrick_33 rfl (lv_at hl 2 rfl) ?_
  have g_21 := z_rng x_7
  have hq_22 : 0 ≤ x_7.toInt ∧ x_7.toInt ≤ 3 := by (first | assumption | omega | (intros; omega))
  have hq_23 : (f_7 11).toInt ≤ 1980000000 := by (first | assumption | omega | (intros; omega))
  refine mcI (zrV (As := [.int x1, .int x_7]) (b := a0) (rest := []) C hs hP hS (c_X12_score l D K hM f_7 A_7 hT a0 ha0 hk0 x1 x_7 hp0 hq_22 hq_23) m_X12_score wm_X12_223 (zrecv hs hP ha0 (zF_11 hk0) rfl) ⟨by decide, by decide⟩ hl.1 (Nat.le_of_ble_eq_true rfl) dX12_endTrick_34) hS (fun x_24 f_24 A_24 H locs p_24 hP hS => ?_)
  obtain ⟨hT, hA_24, hF_24, pp_24⟩ := p_24
  have pp_24 : (f_7 11).toInt ≤ (f_24 11).toInt ∧ (f_24 11).toInt ≤ (f_7 11).toInt + 4 ∧ ((f_7 12).toInt ≠ 0 → (f_24 11).toInt = (f_7 11).toInt) := pp_24
  have pp0_24 := zHid.mk pp_24
  have ev_25 : f_7 12 = f 12 := by rw [hF_7 12 (by decide), hF_3 12 (by decide)]
  rw [ev_25] at pp_24
  have pa_24 := pp_24.1
  have pb_24 := pp_24.2.1
  have qq_24 := zHid.mk pp_24.2.2
  clear pp_24
  have FA := frA FA hA_24 (by decide)
  have FF := frF FF hF_24 (by decide)
  have FC := fC.eq FC (hA_24 40 (by decide))
  have WZ := wz.eq WZ (hA_24 40 (by decide))
  refine lv_istore (lv' := [(6, .int x_24), (5, .int x_20), (4, .int (A 40 (x1.toInt + x_7.toInt + 31).toNat)), (3, .int x_7), (0, .ref a0), (1, .int x1), (2, .int x2)]) hx hb dX12_endTrick_37 hl (by decide) rfl (fun ls hl => ?_)
  refine lv_aload_n hx hb dX12_endTrick_39 rfl (lv_at hl 4 rfl) ?_
  refine mg_0 C hs hP ha0 hk0 wf_X12_8 dX12_endTrick_40 ?_
  refine lv_iload_n hx hb dX12_endTrick_43 rfl (lv_at hl 5 rfl) ?_
  refine lv_bipush (v := 20) hx hb dX12_endTrick_44 (by decide) ?_
  refine lv_iadd hx hb dX12_endTrick_46 ?_
  refine lv_topi (fun x_26 ex_26 => ?_)
  have hi_hr_27 : zEq x_26.toInt (x1.toInt + 20) := by
    obtain ⟨f_26, l_26, u_26⟩ := z_add ex_26 rfl ti_20
    try replace f_26 : x_26.toInt = x1.toInt + 20 := by omega
    clear l_26 u_26
    show x_26.toInt = (x1.toInt + 20)
    omega
  have hl_hr_27 : (20 : Int) ≤ 20 ∧ 20 ≤ (20 : Int) := by decide
  have hid_hr_27 : (x1.toInt + 20) = x1.toInt + (20) := by simp only [Int.add_assoc, Int.add_sub_assoc]
  have hr_27 := z_cell (lo := 20) (hi := 21) hp0 hi_hr_27 hid_hr_27 hl_hr_27 (by decide)
  replace hid_hr_27 : zEq (x1.toInt + 20) (x1.toInt + (20)) := hid_hr_27
  have hin_28 : vp_in x_26 (zn K (zr K a0 0)) := vp_in_iff.mpr (by rw [(hf_10.2.2 (by decide))]; exact hr_27.in)
  refine mld_40 C hs hP hf_10.1 hf_10.2.1 hin_28 dX12_endTrick_47 ?_
  have ep_29 : x_26.toNatClampNeg = (x1.toInt + 20).toNat := z_posE hi_hr_27
  rw [ep_29]
  have ev_30 : A_24 40 (x1.toInt + 20).toNat = A 40 (x1.toInt + 20).toNat := by rw [hA_24 40 (by decide), hA_7 40 (by decide), hA_3 40 (by decide)]
  have tv_31 := rv_20 hT hr_27
  rw [ep_29] at tv_31
  rw [ev_30] at tv_31
  rw [ev_30]
  clear ep_29
  refine lv_istore (lv' := [(7, .int (A 40 (x1.toInt + 20).toNat)), (6, .int x_24), (5, .int x_20), (4, .int (A 40 (x1.toInt + x_7.toInt + 31).toNat)), (3, .int x_7), (0, .ref a0), (1, .int x1), (2, .int x2)]) hx hb dX12_endTrick_48 hl (by decide) rfl (fun ls hl => ?_)
  refine lv_aload_n hx hb dX12_endTrick_50 rfl (lv_at hl 5 rfl) ?_
  refine mg_0 C hs hP ha0 hk0 wf_X12_8 dX12_endTrick_51 ?_
  refine lv_iload_n hx hb dX12_endTrick_54 rfl (lv_at hl 6 rfl) ?_
  refine lv_sipush (v := 530) hx hb dX12_endTrick_55 (by decide) ?_
  refine lv_iadd hx hb dX12_endTrick_58 ?_
  refine lv_topi (fun x_32 ex_32 => ?_)
  refine lv_iload hx hb dX12_endTrick_59 (lv_at hl 0 rfl) ?_
  refine lv_iadd hx hb dX12_endTrick_61 ?_
  refine lv_topi (fun x_33 ex_33 => ?_)
  refine lv_iload hx hb dX12_endTrick_62 (lv_at hl 2 rfl) ?_
  have hi_hr_34 : zEq x_33.toInt (x1.toInt + (A 40 (x1.toInt + 20).toNat).toInt + 530) := by
    obtain ⟨f_32, l_32, u_32⟩ := z_add ex_32 rfl ti_530
    try replace f_32 : x_32.toInt = x1.toInt + 530 := by omega
    clear l_32 u_32
    have g_35 := z_rng (A 40 (x1.toInt + 20).toNat)
    obtain ⟨f_33, l_33, u_33⟩ := z_add ex_33 rfl rfl
    try replace f_33 : x_33.toInt = x_32.toInt + (A 40 (x1.toInt + 20).toNat).toInt := by omega
    clear l_33 u_33
    show x_33.toInt = (x1.toInt + (A 40 (x1.toInt + 20).toNat).toInt + 530)
    omega
  have hl_hr_34 : 530 ≤ (A 40 (x1.toInt + 20).toNat).toInt + 530 ∧ (A 40 (x1.toInt + 20).toNat).toInt + 530 ≤ 589 := by
    have g_36 := z_rng (A 40 (x1.toInt + 20).toNat)
    omega
  have hid_hr_34 : (x1.toInt + (A 40 (x1.toInt + 20).toNat).toInt + 530) = x1.toInt + ((A 40 (x1.toInt + 20).toNat).toInt + 530) := by simp only [Int.add_assoc, Int.add_sub_assoc]
  have hr_34 := z_cell (lo := 470) (hi := 769) hp0 hi_hr_34 hid_hr_34 hl_hr_34 (by decide)
  replace hid_hr_34 : zEq (x1.toInt + (A 40 (x1.toInt + 20).toNat).toInt + 530) (x1.toInt + ((A 40 (x1.toInt + 20).toNat).toInt + 530)) := hid_hr_34
  have hin_37 : vp_in x_33 (zn K (zr K a0 0)) := vp_in_iff.mpr (by rw [(hf_10.2.2 (by decide))]; exact hr_34.in)
  refine mst_40 C hM hs hP hS hf_10.1 hT hf_10.2.1 hin_37 (tp_470 hr_34) dX12_endTrick_64 (fun A_38 H locs hE_38 hT hP hS => ?_)
  have ep_39 : x_33.toNatClampNeg = (x1.toInt + (A 40 (x1.toInt + 20).toNat).toInt + 530).toNat := z_posE hi_hr_34
  rw [ep_39] at hE_38
  clear ep_39
  have FA := frA FA (frAu hE_38) (by decide)
  have FC := fC.tr FC (fC.st (b := x1.toInt) (lo := 530) (hi := 589) hE_38 hb0.1 (by decide) hid_hr_34 hl_hr_34) (by decide)
  have WZ := wz.st WZ hE_38 (Or.inr ⟨by omega, by omega, Or.inr (by omega)⟩)
  refine lv_aload_n hx hb dX12_endTrick_65 rfl (lv_at hl 5 rfl) ?_
  refine mg_0 C hs hP ha0 hk0 wf_X12_8 dX12_endTrick_66 ?_
  refine lv_iload_n hx hb dX12_endTrick_69 rfl (lv_at hl 6 rfl) ?_
  refine lv_sipush (v := 590) hx hb dX12_endTrick_70 (by decide) ?_
  refine lv_iadd hx hb dX12_endTrick_73 ?_
  refine lv_topi (fun x_40 ex_40 => ?_)
  refine lv_iload hx hb dX12_endTrick_74 (lv_at hl 0 rfl) ?_
  refine lv_iadd hx hb dX12_endTrick_76 ?_
  refine lv_topi (fun x_41 ex_41 => ?_)
  refine lv_iload hx hb dX12_endTrick_77 (lv_at hl 1 rfl) ?_
  have hi_hr_42 : zEq x_41.toInt (x1.toInt + (A 40 (x1.toInt + 20).toNat).toInt + 590) := by
    obtain ⟨f_40, l_40, u_40⟩ := z_add ex_40 rfl ti_590
    try replace f_40 : x_40.toInt = x1.toInt + 590 := by omega
    clear l_40 u_40
    have g_43 := z_rng (A 40 (x1.toInt + 20).toNat)
    obtain ⟨f_41, l_41, u_41⟩ := z_add ex_41 rfl rfl
    try replace f_41 : x_41.toInt = x_40.toInt + (A 40 (x1.toInt + 20).toNat).toInt := by omega
    clear l_41 u_41
    show x_41.toInt = (x1.toInt + (A 40 (x1.toInt + 20).toNat).toInt + 590)
    omega
  have hl_hr_42 : 590 ≤ (A 40 (x1.toInt + 20).toNat).toInt + 590 ∧ (A 40 (x1.toInt + 20).toNat).toInt + 590 ≤ 649 := by
    have g_44 := z_rng (A 40 (x1.toInt + 20).toNat)
    omega
  have hid_hr_42 : (x1.toInt + (A 40 (x1.toInt + 20).toNat).toInt + 590) = x1.toInt + ((A 40 (x1.toInt + 20).toNat).toInt + 590) := by simp only [Int.add_assoc, Int.add_sub_assoc]
  have hr_42 := z_cell (lo := 470) (hi := 769) hp0 hi_hr_42 hid_hr_42 hl_hr_42 (by decide)
  replace hid_hr_42 : zEq (x1.toInt + (A 40 (x1.toInt + 20).toNat).toInt + 590) (x1.toInt + ((A 40 (x1.toInt + 20).toNat).toInt + 590)) := hid_hr_42
  have hin_45 : vp_in x_41 (zn K (zr K a0 0)) := vp_in_iff.mpr (by rw [(hf_10.2.2 (by decide))]; exact hr_42.in)
  refine mst_40 C hM hs hP hS hf_10.1 hT hf_10.2.1 hin_45 (tp_470 hr_42) dX12_endTrick_79 (fun A_46 H locs hE_46 hT hP hS => ?_)
  have ep_47 : x_41.toNatClampNeg = (x1.toInt + (A 40 (x1.toInt + 20).toNat).toInt + 590).toNat := z_posE hi_hr_42
  rw [ep_47] at hE_46
  clear ep_47
  have FA := frA FA (frAu hE_46) (by decide)
  have FC := fC.tr FC (fC.st (b := x1.toInt) (lo := 590) (hi := 649) hE_46 hb0.1 (by decide) hid_hr_42 hl_hr_42) (by decide)
  have WZ := wz.st WZ hE_46 (Or.inr ⟨by omega, by omega, Or.inr (by omega)⟩)
  refine lv_aload_n hx hb dX12_endTrick_80 rfl (lv_at hl 5 rfl) ?_
  refine mg_0 C hs hP ha0 hk0 wf_X12_8 dX12_endTrick_81 ?_
  refine lv_iload_n hx hb dX12_endTrick_84 rfl (lv_at hl 6 rfl) ?_
  refine lv_bipush (v := 15) hx hb dX12_endTrick_85 (by decide) ?_
  refine lv_iadd hx hb dX12_endTrick_87 ?_
  refine lv_topi (fun x_48 ex_48 => ?_)
  refine lv_iload hx hb dX12_endTrick_88 (lv_at hl 2 rfl) ?_
  refine lv_iadd hx hb dX12_endTrick_90 ?_
  refine lv_topi (fun x_49 ex_49 => ?_)
  refine lv_dup2_11 hx hb dX12_endTrick_91 rfl rfl ?_
  have hi_hr_50 : zEq x_49.toInt (x1.toInt + x_20.toInt + 15) := by
    obtain ⟨f_48, l_48, u_48⟩ := z_add ex_48 rfl ti_15
    try replace f_48 : x_48.toInt = x1.toInt + 15 := by omega
    clear l_48 u_48
    have g_51 := z_rng (A 40 (x1.toInt + x_7.toInt + 31).toNat)
    have f_20 := z_rem ex_20 rfl ti_2 (by decide)
    obtain ⟨f_49, l_49, u_49⟩ := z_add ex_49 rfl rfl
    try replace f_49 : x_49.toInt = x_48.toInt + x_20.toInt := by omega
    clear l_49 u_49
    show x_49.toInt = (x1.toInt + x_20.toInt + 15)
    omega
  have hl_hr_50 : 15 ≤ x_20.toInt + 15 ∧ x_20.toInt + 15 ≤ 16 := by
    have g_52 := z_rng (A 40 (x1.toInt + x_7.toInt + 31).toNat)
    have f_20 := z_rem ex_20 rfl ti_2 (by decide)
    omega
  have hid_hr_50 : (x1.toInt + x_20.toInt + 15) = x1.toInt + (x_20.toInt + 15) := by simp only [Int.add_assoc, Int.add_sub_assoc]
  have hr_50 := z_cell (lo := 10) (hi := 19) hp0 hi_hr_50 hid_hr_50 hl_hr_50 (by decide)
  replace hid_hr_50 : zEq (x1.toInt + x_20.toInt + 15) (x1.toInt + (x_20.toInt + 15)) := hid_hr_50
  have hin_53 : vp_in x_49 (zn K (zr K a0 0)) := vp_in_iff.mpr (by rw [(hf_10.2.2 (by decide))]; exact hr_50.in)
  refine mld_40 C hs hP hf_10.1 hf_10.2.1 hin_53 dX12_endTrick_92 ?_
  have ep_54 : x_49.toNatClampNeg = (x1.toInt + x_20.toInt + 15).toNat := z_posE hi_hr_50
  rw [ep_54]
  obtain ⟨f_48, l_48, u_48⟩ := z_add ex_48 rfl ti_15
  try replace f_48 : x_48.toInt = x1.toInt + 15 := by omega
  clear l_48 u_48
  have g_56 := z_rng (A 40 (x1.toInt + x_7.toInt + 31).toNat)
  have f_20 := z_rem ex_20 rfl ti_2 (by decide)
  obtain ⟨f_49, l_49, u_49⟩ := z_add ex_49 rfl rfl
  try replace f_49 : x_49.toInt = x_48.toInt + x_20.toInt := by omega
  clear l_49 u_49
  obtain ⟨f_40, l_40, u_40⟩ := z_add ex_40 rfl ti_590
  try replace f_40 : x_40.toInt = x1.toInt + 590 := by omega
  clear l_40 u_40
  have g_57 := z_rng (A 40 (x1.toInt + 20).toNat)
  obtain ⟨f_41, l_41, u_41⟩ := z_add ex_41 rfl rfl
  try replace f_41 : x_41.toInt = x_40.toInt + (A 40 (x1.toInt + 20).toNat).toInt := by omega
  clear l_41 u_41
  have hn_55 : (x1.toInt + x_20.toInt + 15).toNat ≠ (x1.toInt + (A 40 (x1.toInt + 20).toNat).toInt + 590).toNat := zNe (by omega) (by omega) (by omega)
  obtain ⟨f_32, l_32, u_32⟩ := z_add ex_32 rfl ti_530
  try replace f_32 : x_32.toInt = x1.toInt + 530 := by omega
  clear l_32 u_32
  obtain ⟨f_33, l_33, u_33⟩ := z_add ex_33 rfl rfl
  try replace f_33 : x_33.toInt = x_32.toInt + (A 40 (x1.toInt + 20).toNat).toInt := by omega
  clear l_33 u_33
  have hn_58 : (x1.toInt + x_20.toInt + 15).toNat ≠ (x1.toInt + (A 40 (x1.toInt + 20).toNat).toInt + 530).toNat := zNe (by omega) (by omega) (by omega)
  have ev_59 : A_46 40 (x1.toInt + x_20.toInt + 15).toNat = A 40 (x1.toInt + x_20.toInt + 15).toNat := by rw [hE_46, va_up_self, pk_un hn_55, hE_38, va_up_self, pk_un hn_58, hA_24 40 (by decide), hA_7 40 (by decide), hA_3 40 (by decide)]
  clear hn_55 hn_58
  rw [ev_59]
  clear ep_54
  refine lv_iconst (v := 1) hx hb dX12_endTrick_93 (by decide) ?_
  refine lv_iadd hx hb dX12_endTrick_94 ?_
  refine lv_topi (fun x_60 ex_60 => ?_)
  have hin_61 : vp_in x_49 (zn K (zr K a0 0)) := vp_in_iff.mpr (by rw [(hf_10.2.2 (by decide))]; exact hr_50.in)
  refine mst_40 C hM hs hP hS hf_10.1 hT hf_10.2.1 hin_61 (tp_10 hr_50) dX12_endTrick_95 (fun A_62 H locs hE_62 hT hP hS => ?_)
  have ep_63 : x_49.toNatClampNeg = (x1.toInt + x_20.toInt + 15).toNat := z_posE hi_hr_50
  rw [ep_63] at hE_62
  clear ep_63
  have FA := frA FA (frAu hE_62) (by decide)
  have FC := fC.tr FC (fC.st (b := x1.toInt) (lo := 15) (hi := 16) hE_62 hb0.1 (by decide) hid_hr_50 hl_hr_50) (by decide)
  have WZ := wz.st WZ hE_62 (Or.inr ⟨by omega, by omega, Or.inl (by omega)⟩)
  refine lv_aload_n hx hb dX12_endTrick_96 rfl (lv_at hl 5 rfl) ?_
  refine mg_0 C hs hP ha0 hk0 wf_X12_8 dX12_endTrick_97 ?_
  refine lv_iload_n hx hb dX12_endTrick_100 rfl (lv_at hl 6 rfl) ?_
  refine lv_bipush (v := 17) hx hb dX12_endTrick_101 (by decide) ?_
  refine lv_iadd hx hb dX12_endTrick_103 ?_
  refine lv_topi (fun x_64 ex_64 => ?_)
  refine lv_iload hx hb dX12_endTrick_104 (lv_at hl 2 rfl) ?_
  refine lv_iadd hx hb dX12_endTrick_106 ?_
  refine lv_topi (fun x_65 ex_65 => ?_)
  refine lv_dup2_11 hx hb dX12_endTrick_107 rfl rfl ?_
  have hi_hr_66 : zEq x_65.toInt (x1.toInt + x_20.toInt + 17) := by
    obtain ⟨f_64, l_64, u_64⟩ := z_add ex_64 rfl ti_17
    try replace f_64 : x_64.toInt = x1.toInt + 17 := by omega
    clear l_64 u_64
    obtain ⟨f_65, l_65, u_65⟩ := z_add ex_65 rfl rfl
    try replace f_65 : x_65.toInt = x_64.toInt + x_20.toInt := by omega
    clear l_65 u_65
    show x_65.toInt = (x1.toInt + x_20.toInt + 17)
    omega
  have hl_hr_66 : 17 ≤ x_20.toInt + 17 ∧ x_20.toInt + 17 ≤ 18 := by
    omega
  have hid_hr_66 : (x1.toInt + x_20.toInt + 17) = x1.toInt + (x_20.toInt + 17) := by simp only [Int.add_assoc, Int.add_sub_assoc]
  have hr_66 := z_cell (lo := 10) (hi := 19) hp0 hi_hr_66 hid_hr_66 hl_hr_66 (by decide)
  replace hid_hr_66 : zEq (x1.toInt + x_20.toInt + 17) (x1.toInt + (x_20.toInt + 17)) := hid_hr_66
  have hin_67 : vp_in x_65 (zn K (zr K a0 0)) := vp_in_iff.mpr (by rw [(hf_10.2.2 (by decide))]; exact hr_66.in)
  refine mld_40 C hs hP hf_10.1 hf_10.2.1 hin_67 dX12_endTrick_108 ?_
  have ep_68 : x_65.toNatClampNeg = (x1.toInt + x_20.toInt + 17).toNat := z_posE hi_hr_66
  rw [ep_68]
  obtain ⟨f_64, l_64, u_64⟩ := z_add ex_64 rfl ti_17
  try replace f_64 : x_64.toInt = x1.toInt + 17 := by omega
  clear l_64 u_64
  obtain ⟨f_65, l_65, u_65⟩ := z_add ex_65 rfl rfl
  try replace f_65 : x_65.toInt = x_64.toInt + x_20.toInt := by omega
  clear l_65 u_65
  have hn_69 : (x1.toInt + x_20.toInt + 17).toNat ≠ (x1.toInt + x_20.toInt + 15).toNat := zNe (by omega) (by omega) (by omega)
  have hn_70 : (x1.toInt + x_20.toInt + 17).toNat ≠ (x1.toInt + (A 40 (x1.toInt + 20).toNat).toInt + 590).toNat := zNe (by omega) (by omega) (by omega)
  have hn_71 : (x1.toInt + x_20.toInt + 17).toNat ≠ (x1.toInt + (A 40 (x1.toInt + 20).toNat).toInt + 530).toNat := zNe (by omega) (by omega) (by omega)
  have ev_72 : A_62 40 (x1.toInt + x_20.toInt + 17).toNat = A 40 (x1.toInt + x_20.toInt + 17).toNat := by rw [hE_62, va_up_self, pk_un hn_69, hE_46, va_up_self, pk_un hn_70, hE_38, va_up_self, pk_un hn_71, hA_24 40 (by decide), hA_7 40 (by decide), hA_3 40 (by decide)]
  clear hn_69 hn_70 hn_71
  rw [ev_72]
  clear ep_68
  refine lv_iload hx hb dX12_endTrick_109 (lv_at hl 1 rfl) ?_
  refine lv_iadd hx hb dX12_endTrick_111 ?_
  refine lv_topi (fun x_73 ex_73 => ?_)
  have hin_74 : vp_in x_65 (zn K (zr K a0 0)) := vp_in_iff.mpr (by rw [(hf_10.2.2 (by decide))]; exact hr_66.in)
  refine mst_40 C hM hs hP hS hf_10.1 hT hf_10.2.1 hin_74 (tp_10 hr_66) dX12_endTrick_112 (fun A_75 H locs hE_75 hT hP hS => ?_)
  have ep_76 : x_65.toNatClampNeg = (x1.toInt + x_20.toInt + 17).toNat := z_posE hi_hr_66
  rw [ep_76] at hE_75
  clear ep_76
  have FA := frA FA (frAu hE_75) (by decide)
  have FC := fC.tr FC (fC.st (b := x1.toInt) (lo := 17) (hi := 18) hE_75 hb0.1 (by decide) hid_hr_66 hl_hr_66) (by decide)
  have WZ := wz.st WZ hE_75 (Or.inr ⟨by omega, by omega, Or.inl (by omega)⟩)
  refine lv_iconst (v := 0) hx hb dX12_endTrick_113 (by decide) ?_
  refine lv_istore (lv' := [(8, .int 0), (7, .int (A 40 (x1.toInt + 20).toNat)), (6, .int x_24), (5, .int x_20), (4, .int (A 40 (x1.toInt + x_7.toInt + 31).toNat)), (3, .int x_7), (0, .ref a0), (1, .int x1), (2, .int x2)]) hx hb dX12_endTrick_114 hl (by decide) rfl (fun ls hl => ?_)
  have L_116_78 : ∀ (n_78 : Nat) (A_79 : Nat → Nat → Int32) (H : Heap) (locs : List Loc) (y_77 : Int32) (ls : Array Slot), (2147483648 - y_77.toInt).toNat < n_78 → 0 ≤ y_77.toInt → fC (A 40) (A_79 40) x1.toInt ([(15, 18), (110, 169), (470, 649)] : List (Int × Int)) → (∀ k, k ∉ ([40, 48, 50, 53, 55] : List Nat) → A_79 k = A k) → fC (A 40) (A_79 40) x1.toInt ([(5, 5), (9, 9), (15, 18), (19, 19), (20, 20), (26, 26), (39, 42), (110, 169), (470, 529), (530, 589), (590, 649)] : List (Int × Int)) → wz (A 40) (A_79 40) x1.toInt → mT f_24 A_79 → va_P D vwCl (zW K (mV K f_24 A_79)) H → va_S (zA K) s.heap H locs → lv_has ls 9 [(8, .int y_77), (7, .int (A 40 (x1.toInt + 20).toNat)), (6, .int x_24), (5, .int x_20), (4, .int (A 40 (x1.toInt + x_7.toInt + 31).toNat)), (3, .int x_7), (0, .ref a0), (1, .int x1), (2, .int x2)] → W p l e (rmd 4) s m args below meth c H locs 0 0 Q (F0 m 116 ls []) := by
    intro n_78
    induction n_78 with
    | zero => intro A_79 H locs y_77 ls hm_78; exact absurd hm_78 (Nat.not_lt_zero _)
    | succ n_78 ih_78 =>
      intro A_79 H locs y_77 ls hm_78 iv_79_0 iv_79_1 FA_79 FC_79 WZ_79 hT hP hS hl
      have FA := FA_79
      have FC := FC_79
      have WZ := WZ_79
      have e20q := iv_79_1.ar hb0.1 (lo := 20) (hi := 20) (by decide) (x1.toInt + 20) (by decide) (by omega) (by omega)
      have e20i := congrArg Int32.toInt e20q
      have e21q := iv_79_1.ar hb0.1 (lo := 21) (hi := 21) (by decide) (x1.toInt + 21) (by decide) (by omega) (by omega)
      have e21i := congrArg Int32.toInt e21q
      have e43q := iv_79_1.ar hb0.1 (lo := 43) (hi := 43) (by decide) (x1.toInt + 43) (by decide) (by omega) (by omega)
      have e43i := congrArg Int32.toInt e43q
      refine lv_iload hx hb dX12_endTrick_116 (lv_at hl 0 rfl) ?_
      refine lv_aload_n hx hb dX12_endTrick_118 rfl (lv_at hl 6 rfl) ?_
      refine mg_16 C hs hP ha0 hk0 wf_X12_127 dX12_endTrick_119 ?_
      have ev_81 : f_24 16 = f_3 16 := by rw [hF_24 16 (by decide), hF_7 16 (by decide)]
      rw [ev_81]
      have tf_82 : 0 ≤ (f_3 16).toInt ∧ (f_3 16).toInt ≤ 4 := by rw [← ev_81]; exact hT.1 16
      refine bi_ge (tgt := 173) hx hb rfl rfl dX12_endTrick_122 (by decide) (fun c_83 => ?_) (fun c_83 => ?_)
      · skip
        refine lv_aload_n hx hb dX12_endTrick_173 rfl (lv_at hl 6 rfl) ?_
        refine mg_0 C hs hP ha0 hk0 wf_X12_8 dX12_endTrick_174 ?_
        refine lv_iload_n hx hb dX12_endTrick_177 rfl (lv_at hl 7 rfl) ?_
        refine lv_bipush (v := 26) hx hb dX12_endTrick_178 (by decide) ?_
        refine lv_iadd hx hb dX12_endTrick_180 ?_
        refine lv_topi (fun x_111 ex_111 => ?_)
        refine lv_iconst (v := 0) hx hb dX12_endTrick_181 (by decide) ?_
        have hi_hr_112 : zEq x_111.toInt (x1.toInt + 26) := by
          obtain ⟨f_111, l_111, u_111⟩ := z_add ex_111 rfl ti_26
          try replace f_111 : x_111.toInt = x1.toInt + 26 := by omega
          clear l_111 u_111
          show x_111.toInt = (x1.toInt + 26)
          omega
        have hl_hr_112 : (26 : Int) ≤ 26 ∧ 26 ≤ (26 : Int) := by decide
        have hid_hr_112 : (x1.toInt + 26) = x1.toInt + (26) := by simp only [Int.add_assoc, Int.add_sub_assoc]
        have hr_112 := z_cell (lo := 26) (hi := 26) hp0 hi_hr_112 hid_hr_112 hl_hr_112 (by decide)
        replace hid_hr_112 : zEq (x1.toInt + 26) (x1.toInt + (26)) := hid_hr_112
        have hin_113 : vp_in x_111 (zn K (zr K a0 0)) := vp_in_iff.mpr (by rw [(hf_10.2.2 (by decide))]; exact hr_112.in)
        refine mst_40 C hM hs hP hS hf_10.1 hT hf_10.2.1 hin_113 (tp_26 hr_112 (show 0 ≤ (0 : Int32).toInt ∧ (0 : Int32).toInt ≤ 4 from by rw [ti_0]; omega)) dX12_endTrick_182 (fun A_114 H locs hE_114 hT hP hS => ?_)
        have ep_115 : x_111.toNatClampNeg = (x1.toInt + 26).toNat := z_posE hi_hr_112
        rw [ep_115] at hE_114
        clear ep_115
        have FA := frA FA (frAu hE_114) (by decide)
        have FC := fC.tr FC (fC.st (b := x1.toInt) (lo := 26) (hi := 26) hE_114 hb0.1 (by decide) hid_hr_112 hl_hr_112) (by decide)
        have WZ := wz.st WZ hE_114 (Or.inr ⟨by omega, by omega, Or.inl (by omega)⟩)
        refine lv_aload_n hx hb dX12_endTrick_183 rfl (lv_at hl 6 rfl) ?_
        refine mg_0 C hs hP ha0 hk0 wf_X12_8 dX12_endTrick_184 ?_
        refine lv_iload_n hx hb dX12_endTrick_187 rfl (lv_at hl 7 rfl) ?_
        refine lv_bipush (v := 20) hx hb dX12_endTrick_188 (by decide) ?_
        refine lv_iadd hx hb dX12_endTrick_190 ?_
        refine lv_topi (fun x_116 ex_116 => ?_)
        refine lv_dup2_11 hx hb dX12_endTrick_191 rfl rfl ?_
        have hi_hr_117 : zEq x_116.toInt (x1.toInt + 20) := by
          obtain ⟨f_116, l_116, u_116⟩ := z_add ex_116 rfl ti_20
          try replace f_116 : x_116.toInt = x1.toInt + 20 := by omega
          clear l_116 u_116
          show x_116.toInt = (x1.toInt + 20)
          omega
        have hl_hr_117 : (20 : Int) ≤ 20 ∧ 20 ≤ (20 : Int) := by decide
        have hid_hr_117 : (x1.toInt + 20) = x1.toInt + (20) := by simp only [Int.add_assoc, Int.add_sub_assoc]
        have hr_117 := z_cell (lo := 20) (hi := 21) hp0 hi_hr_117 hid_hr_117 hl_hr_117 (by decide)
        replace hid_hr_117 : zEq (x1.toInt + 20) (x1.toInt + (20)) := hid_hr_117
        have hin_118 : vp_in x_116 (zn K (zr K a0 0)) := vp_in_iff.mpr (by rw [(hf_10.2.2 (by decide))]; exact hr_117.in)
        refine mld_40 C hs hP hf_10.1 hf_10.2.1 hin_118 dX12_endTrick_192 ?_
        have ep_119 : x_116.toNatClampNeg = (x1.toInt + 20).toNat := z_posE hi_hr_117
        rw [ep_119]
        obtain ⟨f_116, l_116, u_116⟩ := z_add ex_116 rfl ti_20
        try replace f_116 : x_116.toInt = x1.toInt + 20 := by omega
        clear l_116 u_116
        obtain ⟨f_111, l_111, u_111⟩ := z_add ex_111 rfl ti_26
        try replace f_111 : x_111.toInt = x1.toInt + 26 := by omega
        clear l_111 u_111
        have hn_120 : (x1.toInt + 20).toNat ≠ (x1.toInt + 26).toNat := zNe (by omega) (by omega) (by omega)
        have ev_121 : A_114 40 (x1.toInt + 20).toNat = A_79 40 (x1.toInt + 20).toNat := by rw [hE_114, va_up_self, pk_un hn_120]
        clear hn_120
        have tv_122 := rv_20 hT hr_117
        rw [ep_119] at tv_122
        rw [ev_121] at tv_122
        rw [ev_121]
        clear ep_119
        refine lv_iconst (v := 1) hx hb dX12_endTrick_193 (by decide) ?_
        refine lv_iadd hx hb dX12_endTrick_194 ?_
        refine lv_topi (fun x_123 ex_123 => ?_)
        have hin_124 : vp_in x_116 (zn K (zr K a0 0)) := vp_in_iff.mpr (by rw [(hf_10.2.2 (by decide))]; exact hr_117.in)
        have g_126 := z_rng (A_79 40 (x1.toInt + 20).toNat)
        obtain ⟨f_123, l_123, u_123⟩ := z_add ex_123 rfl ti_1
        try replace f_123 : x_123.toInt = (A_79 40 (x1.toInt + 20).toNat).toInt + 1 := by omega
        clear l_123 u_123
        refine mst_40 C hM hs hP hS hf_10.1 hT hf_10.2.1 hin_124 (tp_20 hr_117 (show 0 ≤ x_123.toInt ∧ x_123.toInt ≤ 60 from by omega)) dX12_endTrick_195 (fun A_125 H locs hE_125 hT hP hS => ?_)
        have ep_127 : x_116.toNatClampNeg = (x1.toInt + 20).toNat := z_posE hi_hr_117
        rw [ep_127] at hE_125
        clear ep_127
        have FA := frA FA (frAu hE_125) (by decide)
        have FC := fC.tr FC (fC.st (b := x1.toInt) (lo := 20) (hi := 20) hE_125 hb0.1 (by decide) hid_hr_117 hl_hr_117) (by decide)
        have WZ := wz.st WZ hE_125 (Or.inr ⟨by omega, by omega, Or.inl (by omega)⟩)
        refine lv_aload_n hx hb dX12_endTrick_196 rfl (lv_at hl 6 rfl) ?_
        refine mg_0 C hs hP ha0 hk0 wf_X12_8 dX12_endTrick_197 ?_
        refine lv_iload_n hx hb dX12_endTrick_200 rfl (lv_at hl 7 rfl) ?_
        refine lv_bipush (v := 19) hx hb dX12_endTrick_201 (by decide) ?_
        refine lv_iadd hx hb dX12_endTrick_203 ?_
        refine lv_topi (fun x_128 ex_128 => ?_)
        refine lv_iload hx hb dX12_endTrick_204 (lv_at hl 4 rfl) ?_
        have hi_hr_129 : zEq x_128.toInt (x1.toInt + 19) := by
          obtain ⟨f_128, l_128, u_128⟩ := z_add ex_128 rfl ti_19
          try replace f_128 : x_128.toInt = x1.toInt + 19 := by omega
          clear l_128 u_128
          show x_128.toInt = (x1.toInt + 19)
          omega
        have hl_hr_129 : (19 : Int) ≤ 19 ∧ 19 ≤ (19 : Int) := by decide
        have hid_hr_129 : (x1.toInt + 19) = x1.toInt + (19) := by simp only [Int.add_assoc, Int.add_sub_assoc]
        have hr_129 := z_cell (lo := 10) (hi := 19) hp0 hi_hr_129 hid_hr_129 hl_hr_129 (by decide)
        replace hid_hr_129 : zEq (x1.toInt + 19) (x1.toInt + (19)) := hid_hr_129
        have hin_130 : vp_in x_128 (zn K (zr K a0 0)) := vp_in_iff.mpr (by rw [(hf_10.2.2 (by decide))]; exact hr_129.in)
        refine mst_40 C hM hs hP hS hf_10.1 hT hf_10.2.1 hin_130 (tp_10 hr_129) dX12_endTrick_206 (fun A_131 H locs hE_131 hT hP hS => ?_)
        have ep_132 : x_128.toNatClampNeg = (x1.toInt + 19).toNat := z_posE hi_hr_129
        rw [ep_132] at hE_131
        clear ep_132
        have FA := frA FA (frAu hE_131) (by decide)
        have FC := fC.tr FC (fC.st (b := x1.toInt) (lo := 19) (hi := 19) hE_131 hb0.1 (by decide) hid_hr_129 hl_hr_129) (by decide)
        have WZ := wz.st WZ hE_131 (Or.inr ⟨by omega, by omega, Or.inl (by omega)⟩)
        refine lv_aload_n hx hb dX12_endTrick_207 rfl (lv_at hl 6 rfl) ?_
        refine mg_0 C hs hP ha0 hk0 wf_X12_8 dX12_endTrick_208 ?_
        refine lv_iload_n hx hb dX12_endTrick_211 rfl (lv_at hl 7 rfl) ?_
        refine lv_bipush (v := 9) hx hb dX12_endTrick_212 (by decide) ?_
        refine lv_iadd hx hb dX12_endTrick_214 ?_
        refine lv_topi (fun x_133 ex_133 => ?_)
        refine lv_aload_n hx hb dX12_endTrick_215 rfl (lv_at hl 6 rfl) ?_
        refine lv_iload_n hx hb dX12_endTrick_216 rfl (lv_at hl 7 rfl) ?_
        refine lv_iload hx hb dX12_endTrick_217 (lv_at hl 4 rfl) ?_
        have hq_134 : 0 ≤ (A 40 (x1.toInt + x_7.toInt + 31).toNat).toInt ∧ (A 40 (x1.toInt + x_7.toInt + 31).toNat).toInt ≤ 4 := by (first | assumption | omega | (intros; omega))
        refine zcS (zrV (As := [.int x1, .int (A 40 (x1.toInt + x_7.toInt + 31).toNat)]) (b := a0) (rest := [.int x_133, .ref (zr K a0 0)]) C hs hP hS (c_X12_seatFrom l D K hM f_24 A_131 hT a0 ha0 hk0 x1 (A 40 (x1.toInt + x_7.toInt + 31).toNat) hp0 hq_134) m_X12_seatFrom wm_X12_162 (zrecv hs hP ha0 (zF_11 hk0) rfl) ⟨by decide, by decide⟩ hl.1 (Nat.le_of_ble_eq_true rfl) dX12_endTrick_219) (fun x_135 p_135 => ?_)
        have pp_135 : (x_135.toInt = -1 ∨ (0 ≤ x_135.toInt ∧ x_135.toInt ≤ 3 ∧ 1 ≤ (A_131 40 (x1.toInt + x_135.toInt + 22).toNat).toInt ∧ nL (A_131 40) x1.toInt x_135.toInt (A_131 40 (x1.toInt + 26).toNat).toInt)) := p_135
        have tRs := hT.row hp0
        have sfp_135 := zHid.mk pp_135
        clear pp_135
        have FCs := FC
        have WZs := WZ
        have fq_136 : fC (A 40) (A_114 40) x1.toInt ([(15, 20), (26, 26), (110, 169), (470, 649)] : List (Int × Int)) := fC.tr (fC.tr fC.rf iv_79_1 (by decide)) (fC.s2 (lo := 26) (hi := 26) hE_114 hb0.1 (by decide) ⟨by omega, by omega⟩) (by decide)
        have fq_137 : fC (A 40) (A_125 40) x1.toInt ([(15, 20), (26, 26), (110, 169), (470, 649)] : List (Int × Int)) := fC.tr fq_136 (fC.s2 (lo := 20) (hi := 20) hE_125 hb0.1 (by decide) ⟨by omega, by omega⟩) (by decide)
        have fq_138 : fC (A 40) (A_131 40) x1.toInt ([(15, 20), (26, 26), (110, 169), (470, 649)] : List (Int × Int)) := fC.tr fq_137 (fC.s2 (lo := 19) (hi := 19) hE_131 hb0.1 (by decide) ⟨by omega, by omega⟩) (by decide)
        obtain ⟨f_128, l_128, u_128⟩ := z_add ex_128 rfl ti_19
        try replace f_128 : x_128.toInt = x1.toInt + 19 := by omega
        clear l_128 u_128
        have es_139 : A_131 40 (x1.toInt + 26).toNat = (0 : Int32) := by rw [hE_131, va_up_self, pk_un (zNe (i := (x1.toInt + 26)) (j := (x1.toInt + 19)) (by omega) (by omega) (by omega)), hE_125, va_up_self, pk_un (zNe (i := (x1.toInt + 26)) (j := (x1.toInt + 20)) (by omega) (by omega) (by omega)), hE_114, va_up_self, pk_us]
        have es_140 : A_131 40 (x1.toInt + 20).toNat = x_123 := by rw [hE_131, va_up_self, pk_un (zNe (i := (x1.toInt + 20)) (j := (x1.toInt + 19)) (by omega) (by omega) (by omega)), hE_125, va_up_self, pk_us]
        have rKs := hp1.2.2.fw hb0.1 FC WZ tR0.p1.2 tR0.p21.2 (by decide) (by decide) (by decide)
        have rPs := rowP.et (C1 := A_131 40) hp1 hp2 (fun q q0 q1 => by unfold hd; rw [fq_138.ar hb0.1 (lo := 22) (hi := 25) (by decide) (x1.toInt + q + 22) (by decide) (by omega) (by omega)]) (by rw [fq_138.ar hb0.1 (lo := 21) (hi := 21) (by decide) (x1.toInt + 21) (by decide) (by omega) (by omega)]) (by rw [es_140]; omega) (by rw [es_139, ti_0]) (by rw [fq_138.ar hb0.1 (lo := 43) (hi := 43) (by decide) (x1.toInt + 43) (by decide) (by omega) (by omega)]) rKs
        have hi_hr_141 : zEq x_133.toInt (x1.toInt + 9) := by
          obtain ⟨f_133, l_133, u_133⟩ := z_add ex_133 rfl ti_9
          try replace f_133 : x_133.toInt = x1.toInt + 9 := by omega
          clear l_133 u_133
          show x_133.toInt = (x1.toInt + 9)
          omega
        have hl_hr_141 : (9 : Int) ≤ 9 ∧ 9 ≤ (9 : Int) := by decide
        have hid_hr_141 : (x1.toInt + 9) = x1.toInt + (9) := by simp only [Int.add_assoc, Int.add_sub_assoc]
        have hr_141 := z_cell (lo := 9) (hi := 9) hp0 hi_hr_141 hid_hr_141 hl_hr_141 (by decide)
        replace hid_hr_141 : zEq (x1.toInt + 9) (x1.toInt + (9)) := hid_hr_141
        have hin_142 : vp_in x_133 (zn K (zr K a0 0)) := vp_in_iff.mpr (by rw [(hf_10.2.2 (by decide))]; exact hr_141.in)
        have g_144 := z_rng x_135
        refine mst_40 C hM hs hP hS hf_10.1 hT hf_10.2.1 hin_142 (tp_9 hr_141 (show -1 ≤ x_135.toInt ∧ x_135.toInt ≤ 3 from by omega)) dX12_endTrick_222 (fun A_143 H locs hE_143 hT hP hS => ?_)
        have ep_145 : x_133.toNatClampNeg = (x1.toInt + 9).toNat := z_posE hi_hr_141
        rw [ep_145] at hE_143
        clear ep_145
        have FA := frA FA (frAu hE_143) (by decide)
        have FC := fC.tr FC (fC.st (b := x1.toInt) (lo := 9) (hi := 9) hE_143 hb0.1 (by decide) hid_hr_141 hl_hr_141) (by decide)
        have WZ := wz.st WZ hE_143 (Or.inr ⟨by omega, by omega, Or.inl (by omega)⟩)
        have hRN := rowN.nx rPs tRs hb0.1 hE_143 sfp_135
        refine lv_aload_n hx hb dX12_endTrick_223 rfl (lv_at hl 6 rfl) ?_
        refine mg_0 C hs hP ha0 hk0 wf_X12_8 dX12_endTrick_224 ?_
        refine lv_iload_n hx hb dX12_endTrick_227 rfl (lv_at hl 7 rfl) ?_
        refine lv_bipush (v := 9) hx hb dX12_endTrick_228 (by decide) ?_
        refine lv_iadd hx hb dX12_endTrick_230 ?_
        refine lv_topi (fun x_146 ex_146 => ?_)
        have hi_hr_147 : zEq x_146.toInt (x1.toInt + 9) := by
          obtain ⟨f_146, l_146, u_146⟩ := z_add ex_146 rfl ti_9
          try replace f_146 : x_146.toInt = x1.toInt + 9 := by omega
          clear l_146 u_146
          show x_146.toInt = (x1.toInt + 9)
          omega
        have hl_hr_147 : (9 : Int) ≤ 9 ∧ 9 ≤ (9 : Int) := by decide
        have hid_hr_147 : (x1.toInt + 9) = x1.toInt + (9) := by simp only [Int.add_assoc, Int.add_sub_assoc]
        have hr_147 := z_cell (lo := 9) (hi := 9) hp0 hi_hr_147 hid_hr_147 hl_hr_147 (by decide)
        replace hid_hr_147 : zEq (x1.toInt + 9) (x1.toInt + (9)) := hid_hr_147
        have hin_148 : vp_in x_146 (zn K (zr K a0 0)) := vp_in_iff.mpr (by rw [(hf_10.2.2 (by decide))]; exact hr_147.in)
        refine mld_40 C hs hP hf_10.1 hf_10.2.1 hin_148 dX12_endTrick_231 ?_
        have ep_149 : x_146.toNatClampNeg = (x1.toInt + 9).toNat := z_posE hi_hr_147
        rw [ep_149]
        have ev_150 : A_143 40 (x1.toInt + 9).toNat = x_135 := by rw [hE_143, va_up_self, pk_us]
        have tv_151 := rv_9 hT hr_147
        rw [ep_149] at tv_151
        rw [ev_150] at tv_151
        rw [ev_150]
        clear ep_149
        refine lv_iconst (v := (-1)) hx hb dX12_endTrick_232 (by decide) ?_
        refine bi_ne (tgt := 242) hx hb rfl ti_m1 dX12_endTrick_233 (by decide) (fun c_152 => ?_) (fun c_152 => ?_)
        · skip
          have ev_153 : f_24 9 = f 9 := by rw [hF_24 9 (by decide), hF_7 9 (by decide), hF_3 9 (by decide)]
          exact maV hQ hx hb hr hlk hP hS ⟨hT, FA, FF, FC, WZ, ⟨by rw [ev_153] <;> omega, by rw [ev_153] <;> omega, by omega, by omega, fun h9 => by have hq0 := qq_7 h9; have hq1 := qq_24 h9; omega, hRN⟩⟩ dX12_endTrick_242
        · skip
          refine lv_aload_n hx hb dX12_endTrick_236 rfl (lv_at hl 6 rfl) ?_
          refine lv_iload_n hx hb dX12_endTrick_237 rfl (lv_at hl 7 rfl) ?_
          refine lv_iload_n hx hb dX12_endTrick_238 rfl (lv_at hl 8 rfl) ?_
          have g_154 := z_rng x2
          have hq_155 : (f_24 11).toInt ≤ 1970000000 := by (first | assumption | omega | (intros; omega))
          have ev_157 : f_24 9 = f 9 := by rw [hF_24 9 (by decide), hF_7 9 (by decide), hF_3 9 (by decide)]
          have hq_156 : (f_24 9).toInt ≤ 1970000000 := by rw [ev_157] <;> (first | assumption | omega | (intros; omega))
          refine mcV (zrV (As := [.int x1, .int x2]) (b := a0) (rest := []) C hs hP hS (c_X12_endDeal l D K hM f_24 A_143 hT a0 ha0 hk0 x1 x2 hp0 hq_155 hq_156) m_X12_endDeal wm_X12_226 (zrecv hs hP ha0 (zF_11 hk0) rfl) ⟨by decide, by decide⟩ hl.1 (Nat.le_of_ble_eq_true rfl) dX12_endTrick_239) hS (fun f_158 A_158 H locs p_158 hP hS => ?_)
          obtain ⟨hT, hA_158, hF_158, hC_158, pp_158⟩ := p_158
          have pp_158 : (f_24 9).toInt ≤ (f_158 9).toInt ∧ (f_158 9).toInt ≤ (f_24 9).toInt + 2 ∧ (f_24 11).toInt ≤ (f_158 11).toInt ∧ (f_158 11).toInt ≤ (f_24 11).toInt + 6 ∧ ((f_24 12).toInt ≠ 0 → (f_158 11).toInt = (f_24 11).toInt) ∧ (rowP (A_143 40) x1.toInt → rowN (A_158 40) x1.toInt) := pp_158
          have pp0_158 := zHid.mk pp_158
          have ev_159 : f_24 12 = f 12 := by rw [hF_24 12 (by decide), hF_7 12 (by decide), hF_3 12 (by decide)]
          have ev_160 : f_24 9 = f 9 := by rw [hF_24 9 (by decide), hF_7 9 (by decide), hF_3 9 (by decide)]
          rw [ev_159, ev_160] at pp_158
          have pc_158 := pp_158.1
          have pd_158 := pp_158.2.1
          have pa_158 := pp_158.2.2.1
          have pb_158 := pp_158.2.2.2.1
          have qq_158 := zHid.mk pp_158.2.2.2.2.1
          replace pp_158 := pp_158.2.2.2.2.2
          have FA := frA FA hA_158 (by decide)
          have FF := frF FF hF_158 (by decide)
          have FC := fC.tr FC hC_158 (by decide)
          have WZ := wz.fC WZ hC_158 (by omega) (by decide)
          have hRN := pp0_158.2.2.2.2.2 hRN.1
          exact maV hQ hx hb hr hlk hP hS ⟨hT, FA, FF, FC, WZ, ⟨by omega, by omega, by omega, by omega, fun h9 => by have hq0 := qq_7 h9; have hq1 := qq_24 h9; have hq2 := qq_158 h9; omega, hRN⟩⟩ dX12_endTrick_242
      · skip
        refine lv_aload_n hx hb dX12_endTrick_125 rfl (lv_at hl 6 rfl) ?_
        refine mg_0 C hs hP ha0 hk0 wf_X12_8 dX12_endTrick_126 ?_
        refine lv_iload_n hx hb dX12_endTrick_129 rfl (lv_at hl 7 rfl) ?_
        refine lv_bipush (v := 110) hx hb dX12_endTrick_130 (by decide) ?_
        refine lv_iadd hx hb dX12_endTrick_132 ?_
        refine lv_topi (fun x_161 ex_161 => ?_)
        refine lv_aload_n hx hb dX12_endTrick_133 rfl (lv_at hl 6 rfl) ?_
        refine mg_15 C hs hP ha0 hk0 wf_X12_39 dX12_endTrick_134 ?_
        have hf_162 := hO.r (j := 15) ha0 hk0 (rfl : zX 11 15 = some (55, 4))
        refine lv_iload hx hb dX12_endTrick_137 (lv_at hl 0 rfl) ?_
        have g_164 := z_rng y_77
        have hin_163 : vp_in y_77 (zn K (zr K a0 15)) := vp_in_iff.mpr (by rw [(hf_162.2.2 (by decide))]; refine ⟨?_, ?_⟩ <;> omega)
        refine mld_55 C hs hP hf_162.1 hf_162.2.1 hin_163 dX12_endTrick_139 ?_
        have tv_165 := ra_55 hT (vp_in_iff.mp hin_163).1 (by have h7 := (vp_in_iff.mp hin_163).2; rw [(hf_162.2.2 (by decide))] at h7; exact h7)
        refine lv_iadd hx hb dX12_endTrick_140 ?_
        refine lv_topi (fun x_166 ex_166 => ?_)
        refine lv_bipush (v := 6) hx hb dX12_endTrick_141 (by decide) ?_
        refine lv_iload hx hb dX12_endTrick_143 (lv_at hl 3 rfl) ?_
        refine lv_iadd hx hb dX12_endTrick_145 ?_
        refine lv_topi (fun x_167 ex_167 => ?_)
        have hi_hr_168 : zEq x_166.toInt (x1.toInt + (A_79 55 y_77.toNatClampNeg).toInt + 110) := by
          obtain ⟨f_161, l_161, u_161⟩ := z_add ex_161 rfl ti_110
          try replace f_161 : x_161.toInt = x1.toInt + 110 := by omega
          clear l_161 u_161
          have g_169 := z_rng (A_79 55 y_77.toNatClampNeg)
          obtain ⟨f_166, l_166, u_166⟩ := z_add ex_166 rfl rfl
          try replace f_166 : x_166.toInt = x_161.toInt + (A_79 55 y_77.toNatClampNeg).toInt := by omega
          clear l_166 u_166
          show x_166.toInt = (x1.toInt + (A_79 55 y_77.toNatClampNeg).toInt + 110)
          omega
        have hl_hr_168 : 110 ≤ (A_79 55 y_77.toNatClampNeg).toInt + 110 ∧ (A_79 55 y_77.toNatClampNeg).toInt + 110 ≤ 169 := by
          have g_170 := z_rng (A_79 55 y_77.toNatClampNeg)
          omega
        have hid_hr_168 : (x1.toInt + (A_79 55 y_77.toNatClampNeg).toInt + 110) = x1.toInt + ((A_79 55 y_77.toNatClampNeg).toInt + 110) := by simp only [Int.add_assoc, Int.add_sub_assoc]
        have hr_168 := z_cell (lo := 45) (hi := 169) hp0 hi_hr_168 hid_hr_168 hl_hr_168 (by decide)
        replace hid_hr_168 : zEq (x1.toInt + (A_79 55 y_77.toNatClampNeg).toInt + 110) (x1.toInt + ((A_79 55 y_77.toNatClampNeg).toInt + 110)) := hid_hr_168
        have hin_171 : vp_in x_166 (zn K (zr K a0 0)) := vp_in_iff.mpr (by rw [(hf_10.2.2 (by decide))]; exact hr_168.in)
        refine mst_40 C hM hs hP hS hf_10.1 hT hf_10.2.1 hin_171 (tp_45 hr_168) dX12_endTrick_146 (fun A_172 H locs hE_172 hT hP hS => ?_)
        have ep_173 : x_166.toNatClampNeg = (x1.toInt + (A_79 55 y_77.toNatClampNeg).toInt + 110).toNat := z_posE hi_hr_168
        rw [ep_173] at hE_172
        clear ep_173
        have FA := frA FA (frAu hE_172) (by decide)
        have FC := fC.tr FC (fC.st (b := x1.toInt) (lo := 110) (hi := 169) hE_172 hb0.1 (by decide) hid_hr_168 hl_hr_168) (by decide)
        obtain ⟨f_167, l_167, u_167⟩ := z_add ex_167 ti_6 rfl
        try replace f_167 : x_167.toInt = 6 + x_20.toInt := by omega
        clear l_167 u_167
        have WZ := wz.st WZ hE_172 (Or.inl (by omega))
        refine lv_aload_n hx hb dX12_endTrick_147 rfl (lv_at hl 6 rfl) ?_
        refine mg_0 C hs hP ha0 hk0 wf_X12_8 dX12_endTrick_148 ?_
        refine lv_iload_n hx hb dX12_endTrick_151 rfl (lv_at hl 7 rfl) ?_
        refine lv_sipush (v := 470) hx hb dX12_endTrick_152 (by decide) ?_
        refine lv_iadd hx hb dX12_endTrick_155 ?_
        refine lv_topi (fun x_174 ex_174 => ?_)
        refine lv_aload_n hx hb dX12_endTrick_156 rfl (lv_at hl 6 rfl) ?_
        refine mg_15 C hs hP ha0 hk0 wf_X12_39 dX12_endTrick_157 ?_
        refine lv_iload hx hb dX12_endTrick_160 (lv_at hl 0 rfl) ?_
        have hin_175 : vp_in y_77 (zn K (zr K a0 15)) := vp_in_iff.mpr (by rw [(hf_162.2.2 (by decide))]; refine ⟨?_, ?_⟩ <;> omega)
        refine mld_55 C hs hP hf_162.1 hf_162.2.1 hin_175 dX12_endTrick_162 ?_
        have ev_176 : A_172 55 y_77.toNatClampNeg = A_79 55 y_77.toNatClampNeg := by rw [hE_172, va_up_ne _ _ (show 55 ≠ 40 by decide)]
        rw [ev_176]
        refine lv_iadd hx hb dX12_endTrick_163 ?_
        refine lv_topi (fun x_177 ex_177 => ?_)
        refine lv_iload hx hb dX12_endTrick_164 (lv_at hl 1 rfl) ?_
        have hi_hr_178 : zEq x_177.toInt (x1.toInt + (A_79 55 y_77.toNatClampNeg).toInt + 470) := by
          obtain ⟨f_174, l_174, u_174⟩ := z_add ex_174 rfl ti_470
          try replace f_174 : x_174.toInt = x1.toInt + 470 := by omega
          clear l_174 u_174
          have g_179 := z_rng (A_79 55 y_77.toNatClampNeg)
          obtain ⟨f_177, l_177, u_177⟩ := z_add ex_177 rfl rfl
          try replace f_177 : x_177.toInt = x_174.toInt + (A_79 55 y_77.toNatClampNeg).toInt := by omega
          clear l_177 u_177
          show x_177.toInt = (x1.toInt + (A_79 55 y_77.toNatClampNeg).toInt + 470)
          omega
        have hl_hr_178 : 470 ≤ (A_79 55 y_77.toNatClampNeg).toInt + 470 ∧ (A_79 55 y_77.toNatClampNeg).toInt + 470 ≤ 529 := by
          have g_180 := z_rng (A_79 55 y_77.toNatClampNeg)
          omega
        have hid_hr_178 : (x1.toInt + (A_79 55 y_77.toNatClampNeg).toInt + 470) = x1.toInt + ((A_79 55 y_77.toNatClampNeg).toInt + 470) := by simp only [Int.add_assoc, Int.add_sub_assoc]
        have hr_178 := z_cell (lo := 470) (hi := 769) hp0 hi_hr_178 hid_hr_178 hl_hr_178 (by decide)
        replace hid_hr_178 : zEq (x1.toInt + (A_79 55 y_77.toNatClampNeg).toInt + 470) (x1.toInt + ((A_79 55 y_77.toNatClampNeg).toInt + 470)) := hid_hr_178
        have hin_181 : vp_in x_177 (zn K (zr K a0 0)) := vp_in_iff.mpr (by rw [(hf_10.2.2 (by decide))]; exact hr_178.in)
        refine mst_40 C hM hs hP hS hf_10.1 hT hf_10.2.1 hin_181 (tp_470 hr_178) dX12_endTrick_166 (fun A_182 H locs hE_182 hT hP hS => ?_)
        have ep_183 : x_177.toNatClampNeg = (x1.toInt + (A_79 55 y_77.toNatClampNeg).toInt + 470).toNat := z_posE hi_hr_178
        rw [ep_183] at hE_182
        clear ep_183
        have FA := frA FA (frAu hE_182) (by decide)
        have FC := fC.tr FC (fC.st (b := x1.toInt) (lo := 470) (hi := 529) hE_182 hb0.1 (by decide) hid_hr_178 hl_hr_178) (by decide)
        have WZ := wz.st WZ hE_182 (Or.inr ⟨by omega, by omega, Or.inr (by omega)⟩)
        obtain ⟨x_184, ex_184⟩ : ∃ y : Int32, y = y_77 + 1 := ⟨_, rfl⟩
        refine lv_iinc (v := x_184) (lv' := [(8, .int x_184), (7, .int (A 40 (x1.toInt + 20).toNat)), (6, .int x_24), (5, .int x_20), (4, .int (A 40 (x1.toInt + x_7.toInt + 31).toNat)), (3, .int x_7), (0, .ref a0), (1, .int x1), (2, .int x2)]) hx hb dX12_endTrick_167 hl (k := 0) rfl (by rw [ex_184]; rfl) (by decide) rfl (fun ls hl => ?_)
        refine lv_goto (tgt := 116) hx hb dX12_endTrick_170 (by decide) ?_
        obtain ⟨f_184, l_184, u_184⟩ := z_add ex_184 rfl ti_1
        try replace f_184 : x_184.toInt = y_77.toInt + 1 := by omega
        clear l_184 u_184
        have g_185 := z_rng (f_3 16)
        have g_187 := z_rng (A_79 55 y_77.toNatClampNeg)
        have fq_186 : fC (A 40) (A_172 40) x1.toInt ([(15, 18), (110, 169), (470, 649)] : List (Int × Int)) := fC.tr iv_79_1 (fC.s2 (lo := 110) (hi := 169) hE_172 hb0.1 (by decide) ⟨by omega, by omega⟩) (by decide)
        have fq_188 : fC (A 40) (A_182 40) x1.toInt ([(15, 18), (110, 169), (470, 649)] : List (Int × Int)) := fC.tr fq_186 (fC.s2 (lo := 470) (hi := 529) hE_182 hb0.1 (by decide) ⟨by omega, by omega⟩) (by decide)
        exact ih_78 A_182 _ _ x_184 _ (by omega) (by omega) fq_188 FA FC WZ hT hP hS (lv_sub hl [0, 1, 2, 3, 4, 5, 6, 7, 8] rfl)
  have fq_189 : fC (A 40) (A_3 40) x1.toInt ([(15, 18), (110, 169), (470, 649)] : List (Int × Int)) := fC.eq fC.rf (hA_3 40 (by decide))
  have fq_190 : fC (A 40) (A_7 40) x1.toInt ([(15, 18), (110, 169), (470, 649)] : List (Int × Int)) := fC.eq fq_189 (hA_7 40 (by decide))
  have fq_191 : fC (A 40) (A_24 40) x1.toInt ([(15, 18), (110, 169), (470, 649)] : List (Int × Int)) := fC.eq fq_190 (hA_24 40 (by decide))
  have fq_192 : fC (A 40) (A_38 40) x1.toInt ([(15, 18), (110, 169), (470, 649)] : List (Int × Int)) := fC.tr fq_191 (fC.s2 (lo := 530) (hi := 589) hE_38 hb0.1 (by decide) ⟨by omega, by omega⟩) (by decide)
  have fq_193 : fC (A 40) (A_46 40) x1.toInt ([(15, 18), (110, 169), (470, 649)] : List (Int × Int)) := fC.tr fq_192 (fC.s2 (lo := 590) (hi := 649) hE_46 hb0.1 (by decide) ⟨by omega, by omega⟩) (by decide)
  have fq_194 : fC (A 40) (A_62 40) x1.toInt ([(15, 18), (110, 169), (470, 649)] : List (Int × Int)) := fC.tr fq_193 (fC.s2 (lo := 15) (hi := 16) hE_62 hb0.1 (by decide) ⟨by omega, by omega⟩) (by decide)
  have fq_195 : fC (A 40) (A_75 40) x1.toInt ([(15, 18), (110, 169), (470, 649)] : List (Int × Int)) := fC.tr fq_194 (fC.s2 (lo := 17) (hi := 18) hE_75 hb0.1 (by decide) ⟨by omega, by omega⟩) (by decide)
  exact L_116_78 _ A_75 _ _ 0 _ (Nat.lt_succ_self _) (by (try simp only [ti_0]); omega) fq_195 FA FC WZ hT hP hS (lv_sub hl [0, 1, 2, 3, 4, 5, 6, 7, 8] rfl)
